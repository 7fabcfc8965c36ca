theorem dX3_worthOn_0 : decode cX3_worthOn 0 = .ok (.iconst 0, 1) := by decide +kernel
theorem dX3_worthOn_1 : decode cX3_worthOn 1 = .ok (.aload_n 0, 1) := by decide +kernel
theorem dX3_worthOn_2 : decode cX3_worthOn 2 = .ok (.getfield 18, 3) := by decide +kernel
theorem dX3_worthOn_5 : decode cX3_worthOn 5 = .ok (.aload_n 0, 1) := by decide +kernel
theorem dX3_worthOn_6 : decode cX3_worthOn 6 = .ok (.getfield 21, 3) := by decide +kernel
theorem dX3_worthOn_9 : decode cX3_worthOn 9 = .ok (.iload_n 1, 1) := by decide +kernel
theorem dX3_worthOn_10 : decode cX3_worthOn 10 = .ok (.aload_n 0, 1) := by decide +kernel
theorem dX3_worthOn_11 : decode cX3_worthOn 11 = .ok (.getfield 24, 3) := by decide +kernel
theorem dX3_worthOn_14 : decode cX3_worthOn 14 = .ok (.isub, 1) := by decide +kernel
theorem dX3_worthOn_15 : decode cX3_worthOn 15 = .ok (.imul, 1) := by decide +kernel
theorem dX3_worthOn_16 : decode cX3_worthOn 16 = .ok (.isub, 1) := by decide +kernel
theorem dX3_worthOn_17 : decode cX3_worthOn 17 = .ok (.invokestatic 43, 3) := by decide +kernel
theorem dX3_worthOn_20 : decode cX3_worthOn 20 = .ok (.ireturn, 1) := by decide +kernel
theorem dX3_fact_0 : decode cX3_fact 0 = .ok (.iload_n 1, 1) := by decide +kernel
theorem dX3_fact_1 : decode cX3_fact 1 = .ok (.tableswitch 60 0 3 #[31, 36, 41, 47], 31) := by decide +kernel
theorem dX3_fact_61 : decode cX3_fact 61 = .ok (.aload_n 0, 1) := by decide +kernel
theorem dX3_fact_62 : decode cX3_fact 62 = .ok (.getfield 36, 3) := by decide +kernel
theorem dX3_fact_65 : decode cX3_fact 65 = .ok (.ireturn, 1) := by decide +kernel
theorem dX3_fact_32 : decode cX3_fact 32 = .ok (.aload_n 0, 1) := by decide +kernel
theorem dX3_fact_33 : decode cX3_fact 33 = .ok (.getfield 9, 3) := by decide +kernel
theorem dX3_fact_36 : decode cX3_fact 36 = .ok (.ireturn, 1) := by decide +kernel
theorem dX3_fact_37 : decode cX3_fact 37 = .ok (.aload_n 0, 1) := by decide +kernel
theorem dX3_fact_38 : decode cX3_fact 38 = .ok (.getfield 15, 3) := by decide +kernel
theorem dX3_fact_41 : decode cX3_fact 41 = .ok (.ireturn, 1) := by decide +kernel
theorem dX3_fact_42 : decode cX3_fact 42 = .ok (.aload_n 0, 1) := by decide +kernel
theorem dX3_fact_43 : decode cX3_fact 43 = .ok (.iload_n 2, 1) := by decide +kernel
theorem dX3_fact_44 : decode cX3_fact 44 = .ok (.invokevirtual 49, 3) := by decide +kernel
theorem dX3_fact_47 : decode cX3_fact 47 = .ok (.ireturn, 1) := by decide +kernel
theorem dX3_fact_48 : decode cX3_fact 48 = .ok (.aload_n 0, 1) := by decide +kernel
theorem dX3_fact_49 : decode cX3_fact 49 = .ok (.getfield 39, 3) := by decide +kernel
theorem dX3_fact_52 : decode cX3_fact 52 = .ok (.ifCond .eq 7, 3) := by decide +kernel
theorem dX3_fact_59 : decode cX3_fact 59 = .ok (.iconst 0, 1) := by decide +kernel
theorem dX3_fact_60 : decode cX3_fact 60 = .ok (.ireturn, 1) := by decide +kernel
theorem dX3_fact_55 : decode cX3_fact 55 = .ok (.iconst 1, 1) := by decide +kernel
theorem dX3_fact_56 : decode cX3_fact 56 = .ok (.goto 4, 3) := by decide +kernel
theorem dX3_begin_0 : decode cX3_begin 0 = .ok (.aload_n 0, 1) := by decide +kernel
theorem dX3_begin_1 : decode cX3_begin 1 = .ok (.iload_n 1, 1) := by decide +kernel
theorem dX3_begin_2 : decode cX3_begin 2 = .ok (.putfield 9, 3) := by decide +kernel
theorem dX3_begin_5 : decode cX3_begin 5 = .ok (.aload_n 0, 1) := by decide +kernel
theorem dX3_begin_6 : decode cX3_begin 6 = .ok (.iload_n 2, 1) := by decide +kernel
theorem dX3_begin_7 : decode cX3_begin 7 = .ok (.putfield 15, 3) := by decide +kernel
theorem dX3_begin_10 : decode cX3_begin 10 = .ok (.aload_n 0, 1) := by decide +kernel
theorem dX3_begin_11 : decode cX3_begin 11 = .ok (.iload_n 3, 1) := by decide +kernel
theorem dX3_begin_12 : decode cX3_begin 12 = .ok (.putfield 18, 3) := by decide +kernel
theorem dX3_begin_15 : decode cX3_begin 15 = .ok (.aload_n 0, 1) := by decide +kernel
theorem dX3_begin_16 : decode cX3_begin 16 = .ok (.iload 4, 2) := by decide +kernel
theorem dX3_begin_18 : decode cX3_begin 18 = .ok (.putfield 21, 3) := by decide +kernel
theorem dX3_begin_21 : decode cX3_begin 21 = .ok (.aload_n 0, 1) := by decide +kernel
theorem dX3_begin_22 : decode cX3_begin 22 = .ok (.iload 5, 2) := by decide +kernel
theorem dX3_begin_24 : decode cX3_begin 24 = .ok (.putfield 24, 3) := by decide +kernel
theorem dX3_begin_27 : decode cX3_begin 27 = .ok (.aload_n 0, 1) := by decide +kernel
theorem dX3_begin_28 : decode cX3_begin 28 = .ok (.iload_n 1, 1) := by decide +kernel
theorem dX3_begin_29 : decode cX3_begin 29 = .ok (.putfield 27, 3) := by decide +kernel
theorem dX3_begin_32 : decode cX3_begin 32 = .ok (.aload_n 0, 1) := by decide +kernel
theorem dX3_begin_33 : decode cX3_begin 33 = .ok (.iconst 0, 1) := by decide +kernel
theorem dX3_begin_34 : decode cX3_begin 34 = .ok (.putfield 30, 3) := by decide +kernel
theorem dX3_begin_37 : decode cX3_begin 37 = .ok (.aload_n 0, 1) := by decide +kernel
theorem dX3_begin_38 : decode cX3_begin 38 = .ok (.bipush (-9), 2) := by decide +kernel
theorem dX3_begin_40 : decode cX3_begin 40 = .ok (.putfield 33, 3) := by decide +kernel
theorem dX3_begin_43 : decode cX3_begin 43 = .ok (.aload_n 0, 1) := by decide +kernel
theorem dX3_begin_44 : decode cX3_begin 44 = .ok (.iconst 0, 1) := by decide +kernel
theorem dX3_begin_45 : decode cX3_begin 45 = .ok (.putfield 36, 3) := by decide +kernel
theorem dX3_begin_48 : decode cX3_begin 48 = .ok (.aload_n 0, 1) := by decide +kernel
theorem dX3_begin_49 : decode cX3_begin 49 = .ok (.iconst 0, 1) := by decide +kernel
theorem dX3_begin_50 : decode cX3_begin 50 = .ok (.putfield 39, 3) := by decide +kernel
theorem dX3_begin_53 : decode cX3_begin 53 = .ok (.return_, 1) := by decide +kernel
theorem dX3_beLike_0 : decode cX3_beLike 0 = .ok (.aload_n 0, 1) := by decide +kernel
theorem dX3_beLike_1 : decode cX3_beLike 1 = .ok (.aload_n 1, 1) := by decide +kernel
theorem dX3_beLike_2 : decode cX3_beLike 2 = .ok (.getfield 9, 3) := by decide +kernel
theorem dX3_beLike_5 : decode cX3_beLike 5 = .ok (.putfield 9, 3) := by decide +kernel
theorem dX3_beLike_8 : decode cX3_beLike 8 = .ok (.aload_n 0, 1) := by decide +kernel
theorem dX3_beLike_9 : decode cX3_beLike 9 = .ok (.aload_n 1, 1) := by decide +kernel
theorem dX3_beLike_10 : decode cX3_beLike 10 = .ok (.getfield 15, 3) := by decide +kernel
theorem dX3_beLike_13 : decode cX3_beLike 13 = .ok (.putfield 15, 3) := by decide +kernel
theorem dX3_beLike_16 : decode cX3_beLike 16 = .ok (.aload_n 0, 1) := by decide +kernel
theorem dX3_beLike_17 : decode cX3_beLike 17 = .ok (.aload_n 1, 1) := by decide +kernel
theorem dX3_beLike_18 : decode cX3_beLike 18 = .ok (.getfield 18, 3) := by decide +kernel
theorem dX3_beLike_21 : decode cX3_beLike 21 = .ok (.putfield 18, 3) := by decide +kernel
theorem dX3_beLike_24 : decode cX3_beLike 24 = .ok (.aload_n 0, 1) := by decide +kernel
theorem dX3_beLike_25 : decode cX3_beLike 25 = .ok (.aload_n 1, 1) := by decide +kernel
theorem dX3_beLike_26 : decode cX3_beLike 26 = .ok (.getfield 21, 3) := by decide +kernel
theorem dX3_beLike_29 : decode cX3_beLike 29 = .ok (.putfield 21, 3) := by decide +kernel
theorem dX3_beLike_32 : decode cX3_beLike 32 = .ok (.aload_n 0, 1) := by decide +kernel
theorem dX3_beLike_33 : decode cX3_beLike 33 = .ok (.aload_n 1, 1) := by decide +kernel
theorem dX3_beLike_34 : decode cX3_beLike 34 = .ok (.getfield 24, 3) := by decide +kernel
theorem dX3_beLike_37 : decode cX3_beLike 37 = .ok (.putfield 24, 3) := by decide +kernel
theorem dX3_beLike_40 : decode cX3_beLike 40 = .ok (.aload_n 0, 1) := by decide +kernel
theorem dX3_beLike_41 : decode cX3_beLike 41 = .ok (.aload_n 1, 1) := by decide +kernel
theorem dX3_beLike_42 : decode cX3_beLike 42 = .ok (.getfield 27, 3) := by decide +kernel
theorem dX3_beLike_45 : decode cX3_beLike 45 = .ok (.putfield 27, 3) := by decide +kernel
theorem dX3_beLike_48 : decode cX3_beLike 48 = .ok (.aload_n 0, 1) := by decide +kernel
theorem dX3_beLike_49 : decode cX3_beLike 49 = .ok (.aload_n 1, 1) := by decide +kernel
theorem dX3_beLike_50 : decode cX3_beLike 50 = .ok (.getfield 30, 3) := by decide +kernel
theorem dX3_beLike_53 : decode cX3_beLike 53 = .ok (.putfield 30, 3) := by decide +kernel
theorem dX3_beLike_56 : decode cX3_beLike 56 = .ok (.aload_n 0, 1) := by decide +kernel
theorem dX3_beLike_57 : decode cX3_beLike 57 = .ok (.aload_n 1, 1) := by decide +kernel
theorem dX3_beLike_58 : decode cX3_beLike 58 = .ok (.getfield 33, 3) := by decide +kernel
theorem dX3_beLike_61 : decode cX3_beLike 61 = .ok (.putfield 33, 3) := by decide +kernel
theorem dX3_beLike_64 : decode cX3_beLike 64 = .ok (.aload_n 0, 1) := by decide +kernel
theorem dX3_beLike_65 : decode cX3_beLike 65 = .ok (.aload_n 1, 1) := by decide +kernel
theorem dX3_beLike_66 : decode cX3_beLike 66 = .ok (.getfield 36, 3) := by decide +kernel
theorem dX3_beLike_69 : decode cX3_beLike 69 = .ok (.putfield 36, 3) := by decide +kernel
theorem dX3_beLike_72 : decode cX3_beLike 72 = .ok (.aload_n 0, 1) := by decide +kernel
theorem dX3_beLike_73 : decode cX3_beLike 73 = .ok (.aload_n 1, 1) := by decide +kernel
theorem dX3_beLike_74 : decode cX3_beLike 74 = .ok (.getfield 39, 3) := by decide +kernel
theorem dX3_beLike_77 : decode cX3_beLike 77 = .ok (.putfield 39, 3) := by decide +kernel
theorem dX3_beLike_80 : decode cX3_beLike 80 = .ok (.return_, 1) := by decide +kernel
theorem dX3_digestOn_0 : decode cX3_digestOn 0 = .ok (.lload_n 1, 1) := by decide +kernel
theorem dX3_digestOn_1 : decode cX3_digestOn 1 = .ok (.lstore 4, 2) := by decide +kernel
theorem dX3_digestOn_3 : decode cX3_digestOn 3 = .ok (.iconst 0, 1) := by decide +kernel
theorem dX3_digestOn_4 : decode cX3_digestOn 4 = .ok (.istore 6, 2) := by decide +kernel
theorem dX3_digestOn_6 : decode cX3_digestOn 6 = .ok (.iload 6, 2) := by decide +kernel
theorem dX3_digestOn_8 : decode cX3_digestOn 8 = .ok (.iconst 5, 1) := by decide +kernel
theorem dX3_digestOn_9 : decode cX3_digestOn 9 = .ok (.if_icmp .ge 26, 3) := by decide +kernel
theorem dX3_digestOn_35 : decode cX3_digestOn 35 = .ok (.ldc2_w 53, 3) := by decide +kernel
theorem dX3_digestOn_38 : decode cX3_digestOn 38 = .ok (.lload 4, 2) := by decide +kernel
theorem dX3_digestOn_40 : decode cX3_digestOn 40 = .ok (.lmul, 1) := by decide +kernel
theorem dX3_digestOn_41 : decode cX3_digestOn 41 = .ok (.aload_n 0, 1) := by decide +kernel
theorem dX3_digestOn_42 : decode cX3_digestOn 42 = .ok (.getfield 27, 3) := by decide +kernel
theorem dX3_digestOn_45 : decode cX3_digestOn 45 = .ok (.i2l, 1) := by decide +kernel
theorem dX3_digestOn_46 : decode cX3_digestOn 46 = .ok (.ladd, 1) := by decide +kernel
theorem dX3_digestOn_47 : decode cX3_digestOn 47 = .ok (.lstore 4, 2) := by decide +kernel
theorem dX3_digestOn_49 : decode cX3_digestOn 49 = .ok (.ldc2_w 53, 3) := by decide +kernel
theorem dX3_digestOn_52 : decode cX3_digestOn 52 = .ok (.lload 4, 2) := by decide +kernel
theorem dX3_digestOn_54 : decode cX3_digestOn 54 = .ok (.lmul, 1) := by decide +kernel
theorem dX3_digestOn_55 : decode cX3_digestOn 55 = .ok (.aload_n 0, 1) := by decide +kernel
theorem dX3_digestOn_56 : decode cX3_digestOn 56 = .ok (.getfield 30, 3) := by decide +kernel
theorem dX3_digestOn_59 : decode cX3_digestOn 59 = .ok (.i2l, 1) := by decide +kernel
theorem dX3_digestOn_60 : decode cX3_digestOn 60 = .ok (.ladd, 1) := by decide +kernel
theorem dX3_digestOn_61 : decode cX3_digestOn 61 = .ok (.lreturn, 1) := by decide +kernel
theorem dX3_digestOn_12 : decode cX3_digestOn 12 = .ok (.ldc2_w 53, 3) := by decide +kernel
theorem dX3_digestOn_15 : decode cX3_digestOn 15 = .ok (.lload 4, 2) := by decide +kernel
theorem dX3_digestOn_17 : decode cX3_digestOn 17 = .ok (.lmul, 1) := by decide +kernel
theorem dX3_digestOn_18 : decode cX3_digestOn 18 = .ok (.aload_n 0, 1) := by decide +kernel
theorem dX3_digestOn_19 : decode cX3_digestOn 19 = .ok (.iload 6, 2) := by decide +kernel
theorem dX3_digestOn_21 : decode cX3_digestOn 21 = .ok (.iload_n 3, 1) := by decide +kernel
theorem dX3_digestOn_22 : decode cX3_digestOn 22 = .ok (.invokevirtual 55, 3) := by decide +kernel
theorem dX3_digestOn_25 : decode cX3_digestOn 25 = .ok (.i2l, 1) := by decide +kernel
theorem dX3_digestOn_26 : decode cX3_digestOn 26 = .ok (.ladd, 1) := by decide +kernel
theorem dX3_digestOn_27 : decode cX3_digestOn 27 = .ok (.lstore 4, 2) := by decide +kernel
theorem dX3_digestOn_29 : decode cX3_digestOn 29 = .ok (.iinc 6 1, 3) := by decide +kernel
theorem dX3_digestOn_32 : decode cX3_digestOn 32 = .ok (.goto (-26), 3) := by decide +kernel
theorem dX10_priceOf_0 : decode cX10_priceOf 0 = .ok (.aload_n 0, 1) := by decide +kernel
theorem dX10_priceOf_1 : decode cX10_priceOf 1 = .ok (.getfield 9, 3) := by decide +kernel
theorem dX10_priceOf_4 : decode cX10_priceOf 4 = .ok (.aload_n 1, 1) := by decide +kernel
theorem dX10_priceOf_5 : decode cX10_priceOf 5 = .ok (.getfield 71, 3) := by decide +kernel
theorem dX10_priceOf_8 : decode cX10_priceOf 8 = .ok (.iaload, 1) := by decide +kernel
theorem dX10_priceOf_9 : decode cX10_priceOf 9 = .ok (.aload_n 1, 1) := by decide +kernel
theorem dX10_priceOf_10 : decode cX10_priceOf 10 = .ok (.getfield 83, 3) := by decide +kernel
theorem dX10_priceOf_13 : decode cX10_priceOf 13 = .ok (.invokestatic 89, 3) := by decide +kernel
theorem dX10_priceOf_16 : decode cX10_priceOf 16 = .ok (.ireturn, 1) := by decide +kernel
theorem dX10_buyersOf_0 : decode cX10_buyersOf 0 = .ok (.aload_n 1, 1) := by decide +kernel
theorem dX10_buyersOf_1 : decode cX10_buyersOf 1 = .ok (.getfield 76, 3) := by decide +kernel
theorem dX10_buyersOf_4 : decode cX10_buyersOf 4 = .ok (.ifCond .ne 17, 3) := by decide +kernel
theorem dX10_buyersOf_21 : decode cX10_buyersOf 21 = .ok (.iconst 0, 1) := by decide +kernel
theorem dX10_buyersOf_22 : decode cX10_buyersOf 22 = .ok (.ireturn, 1) := by decide +kernel
theorem dX10_buyersOf_7 : decode cX10_buyersOf 7 = .ok (.aload_n 1, 1) := by decide +kernel
theorem dX10_buyersOf_8 : decode cX10_buyersOf 8 = .ok (.getfield 92, 3) := by decide +kernel
theorem dX10_buyersOf_11 : decode cX10_buyersOf 11 = .ok (.aload_n 0, 1) := by decide +kernel
theorem dX10_buyersOf_12 : decode cX10_buyersOf 12 = .ok (.getfield 24, 3) := by decide +kernel
theorem dX10_buyersOf_15 : decode cX10_buyersOf 15 = .ok (.getfield 95, 3) := by decide +kernel
theorem dX10_buyersOf_18 : decode cX10_buyersOf 18 = .ok (.if_icmp .ne 5, 3) := by decide +kernel
theorem dX10_buyersOf_23 : decode cX10_buyersOf 23 = .ok (.aload_n 0, 1) := by decide +kernel
theorem dX10_buyersOf_24 : decode cX10_buyersOf 24 = .ok (.aload_n 1, 1) := by decide +kernel
theorem dX10_buyersOf_25 : decode cX10_buyersOf 25 = .ok (.invokevirtual 98, 3) := by decide +kernel
theorem dX10_buyersOf_28 : decode cX10_buyersOf 28 = .ok (.istore_n 2, 1) := by decide +kernel
theorem dX10_buyersOf_29 : decode cX10_buyersOf 29 = .ok (.aload_n 0, 1) := by decide +kernel
theorem dX10_buyersOf_30 : decode cX10_buyersOf 30 = .ok (.aload_n 1, 1) := by decide +kernel
theorem dX10_buyersOf_31 : decode cX10_buyersOf 31 = .ok (.getfield 71, 3) := by decide +kernel
theorem dX10_buyersOf_34 : decode cX10_buyersOf 34 = .ok (.aload_n 0, 1) := by decide +kernel
theorem dX10_buyersOf_35 : decode cX10_buyersOf 35 = .ok (.getfield 24, 3) := by decide +kernel
theorem dX10_buyersOf_38 : decode cX10_buyersOf 38 = .ok (.getfield 48, 3) := by decide +kernel
theorem dX10_buyersOf_41 : decode cX10_buyersOf 41 = .ok (.invokevirtual 51, 3) := by decide +kernel
theorem dX10_buyersOf_44 : decode cX10_buyersOf 44 = .ok (.istore_n 3, 1) := by decide +kernel
theorem dX10_buyersOf_45 : decode cX10_buyersOf 45 = .ok (.iconst 0, 1) := by decide +kernel
theorem dX10_buyersOf_46 : decode cX10_buyersOf 46 = .ok (.istore 4, 2) := by decide +kernel
theorem dX10_buyersOf_48 : decode cX10_buyersOf 48 = .ok (.iload 4, 2) := by decide +kernel
theorem dX10_buyersOf_50 : decode cX10_buyersOf 50 = .ok (.aload_n 0, 1) := by decide +kernel
theorem dX10_buyersOf_51 : decode cX10_buyersOf 51 = .ok (.getfield 34, 3) := by decide +kernel
theorem dX10_buyersOf_54 : decode cX10_buyersOf 54 = .ok (.if_icmp .ge 87, 3) := by decide +kernel
theorem dX10_buyersOf_141 : decode cX10_buyersOf 141 = .ok (.iload_n 3, 1) := by decide +kernel
theorem dX10_buyersOf_142 : decode cX10_buyersOf 142 = .ok (.ireturn, 1) := by decide +kernel
theorem dX10_buyersOf_57 : decode cX10_buyersOf 57 = .ok (.iload 4, 2) := by decide +kernel
theorem dX10_buyersOf_59 : decode cX10_buyersOf 59 = .ok (.aload_n 1, 1) := by decide +kernel
theorem dX10_buyersOf_60 : decode cX10_buyersOf 60 = .ok (.getfield 80, 3) := by decide +kernel
theorem dX10_buyersOf_63 : decode cX10_buyersOf 63 = .ok (.if_icmp .ne 26, 3) := by decide +kernel
theorem dX10_buyersOf_89 : decode cX10_buyersOf 89 = .ok (.aload_n 0, 1) := by decide +kernel
theorem dX10_buyersOf_90 : decode cX10_buyersOf 90 = .ok (.getfield 9, 3) := by decide +kernel
theorem dX10_buyersOf_93 : decode cX10_buyersOf 93 = .ok (.iload 4, 2) := by decide +kernel
theorem dX10_buyersOf_95 : decode cX10_buyersOf 95 = .ok (.iaload, 1) := by decide +kernel
theorem dX10_buyersOf_96 : decode cX10_buyersOf 96 = .ok (.iconst 3, 1) := by decide +kernel
theorem dX10_buyersOf_97 : decode cX10_buyersOf 97 = .ok (.if_icmp .eq 7, 3) := by decide +kernel
theorem dX10_buyersOf_104 : decode cX10_buyersOf 104 = .ok (.iconst 0, 1) := by decide +kernel
theorem dX10_buyersOf_105 : decode cX10_buyersOf 105 = .ok (.istore 5, 2) := by decide +kernel
theorem dX10_buyersOf_107 : decode cX10_buyersOf 107 = .ok (.iload 5, 2) := by decide +kernel
theorem dX10_buyersOf_109 : decode cX10_buyersOf 109 = .ok (.ifCond .eq 17, 3) := by decide +kernel
theorem dX10_buyersOf_126 : decode cX10_buyersOf 126 = .ok (.iload_n 3, 1) := by decide +kernel
theorem dX10_buyersOf_127 : decode cX10_buyersOf 127 = .ok (.iconst 1, 1) := by decide +kernel
theorem dX10_buyersOf_128 : decode cX10_buyersOf 128 = .ok (.iload 4, 2) := by decide +kernel
theorem dX10_buyersOf_130 : decode cX10_buyersOf 130 = .ok (.ishl, 1) := by decide +kernel
theorem dX10_buyersOf_131 : decode cX10_buyersOf 131 = .ok (.iconst (-1), 1) := by decide +kernel
theorem dX10_buyersOf_132 : decode cX10_buyersOf 132 = .ok (.ixor, 1) := by decide +kernel
theorem dX10_buyersOf_133 : decode cX10_buyersOf 133 = .ok (.iand, 1) := by decide +kernel
theorem dX10_buyersOf_134 : decode cX10_buyersOf 134 = .ok (.istore_n 3, 1) := by decide +kernel
theorem dX10_buyersOf_135 : decode cX10_buyersOf 135 = .ok (.iinc 4 1, 3) := by decide +kernel
theorem dX10_buyersOf_138 : decode cX10_buyersOf 138 = .ok (.goto (-90), 3) := by decide +kernel
theorem dX10_buyersOf_100 : decode cX10_buyersOf 100 = .ok (.iconst 1, 1) := by decide +kernel
theorem dX10_buyersOf_101 : decode cX10_buyersOf 101 = .ok (.goto 4, 3) := by decide +kernel
theorem dX10_buyersOf_112 : decode cX10_buyersOf 112 = .ok (.aload_n 0, 1) := by decide +kernel
theorem dX10_buyersOf_113 : decode cX10_buyersOf 113 = .ok (.getfield 24, 3) := by decide +kernel
theorem dX10_buyersOf_116 : decode cX10_buyersOf 116 = .ok (.getfield 45, 3) := by decide +kernel
theorem dX10_buyersOf_119 : decode cX10_buyersOf 119 = .ok (.iload 4, 2) := by decide +kernel
theorem dX10_buyersOf_121 : decode cX10_buyersOf 121 = .ok (.iaload, 1) := by decide +kernel
theorem dX10_buyersOf_122 : decode cX10_buyersOf 122 = .ok (.iload_n 2, 1) := by decide +kernel
theorem dX10_buyersOf_123 : decode cX10_buyersOf 123 = .ok (.if_icmp .ge 12, 3) := by decide +kernel
theorem dX10_buyersOf_66 : decode cX10_buyersOf 66 = .ok (.aload_n 1, 1) := by decide +kernel
theorem dX10_buyersOf_67 : decode cX10_buyersOf 67 = .ok (.aload_n 0, 1) := by decide +kernel
theorem dX10_buyersOf_68 : decode cX10_buyersOf 68 = .ok (.getfield 24, 3) := by decide +kernel
theorem dX10_buyersOf_71 : decode cX10_buyersOf 71 = .ok (.getfield 95, 3) := by decide +kernel
theorem dX10_buyersOf_74 : decode cX10_buyersOf 74 = .ok (.invokevirtual 102, 3) := by decide +kernel
theorem dX10_buyersOf_77 : decode cX10_buyersOf 77 = .ok (.iload_n 2, 1) := by decide +kernel
theorem dX10_buyersOf_78 : decode cX10_buyersOf 78 = .ok (.if_icmp .lt 7, 3) := by decide +kernel
theorem dX10_buyersOf_85 : decode cX10_buyersOf 85 = .ok (.iconst 0, 1) := by decide +kernel
theorem dX10_buyersOf_86 : decode cX10_buyersOf 86 = .ok (.goto 19, 3) := by decide +kernel
theorem dX10_buyersOf_81 : decode cX10_buyersOf 81 = .ok (.iconst 1, 1) := by decide +kernel
theorem dX10_buyersOf_82 : decode cX10_buyersOf 82 = .ok (.goto 23, 3) := by decide +kernel
theorem dX10_buyableBy_0 : decode cX10_buyableBy 0 = .ok (.iconst 0, 1) := by decide +kernel
theorem dX10_buyableBy_1 : decode cX10_buyableBy 1 = .ok (.istore_n 2, 1) := by decide +kernel
theorem dX10_buyableBy_2 : decode cX10_buyableBy 2 = .ok (.iconst 0, 1) := by decide +kernel
theorem dX10_buyableBy_3 : decode cX10_buyableBy 3 = .ok (.istore_n 3, 1) := by decide +kernel
theorem dX10_buyableBy_4 : decode cX10_buyableBy 4 = .ok (.iload_n 3, 1) := by decide +kernel
theorem dX10_buyableBy_5 : decode cX10_buyableBy 5 = .ok (.aload_n 0, 1) := by decide +kernel
theorem dX10_buyableBy_6 : decode cX10_buyableBy 6 = .ok (.getfield 24, 3) := by decide +kernel
theorem dX10_buyableBy_9 : decode cX10_buyableBy 9 = .ok (.getfield 64, 3) := by decide +kernel
theorem dX10_buyableBy_12 : decode cX10_buyableBy 12 = .ok (.if_icmp .ge 39, 3) := by decide +kernel
theorem dX10_buyableBy_51 : decode cX10_buyableBy 51 = .ok (.iload_n 2, 1) := by decide +kernel
theorem dX10_buyableBy_52 : decode cX10_buyableBy 52 = .ok (.ireturn, 1) := by decide +kernel
theorem dX10_buyableBy_15 : decode cX10_buyableBy 15 = .ok (.iload_n 2, 1) := by decide +kernel
theorem dX10_buyableBy_16 : decode cX10_buyableBy 16 = .ok (.aload_n 0, 1) := by decide +kernel
theorem dX10_buyableBy_17 : decode cX10_buyableBy 17 = .ok (.aload_n 0, 1) := by decide +kernel
theorem dX10_buyableBy_18 : decode cX10_buyableBy 18 = .ok (.getfield 24, 3) := by decide +kernel
theorem dX10_buyableBy_21 : decode cX10_buyableBy 21 = .ok (.getfield 67, 3) := by decide +kernel
theorem dX10_buyableBy_24 : decode cX10_buyableBy 24 = .ok (.iload_n 3, 1) := by decide +kernel
theorem dX10_buyableBy_25 : decode cX10_buyableBy 25 = .ok (.aaload, 1) := by decide +kernel
theorem dX10_buyableBy_26 : decode cX10_buyableBy 26 = .ok (.invokevirtual 105, 3) := by decide +kernel
theorem dX10_buyableBy_29 : decode cX10_buyableBy 29 = .ok (.iload_n 1, 1) := by decide +kernel
theorem dX10_buyableBy_30 : decode cX10_buyableBy 30 = .ok (.invokestatic 41, 3) := by decide +kernel
theorem dX10_buyableBy_33 : decode cX10_buyableBy 33 = .ok (.ifCond .eq 9, 3) := by decide +kernel
theorem dX10_buyableBy_42 : decode cX10_buyableBy 42 = .ok (.iconst 0, 1) := by decide +kernel
theorem dX10_buyableBy_43 : decode cX10_buyableBy 43 = .ok (.ior, 1) := by decide +kernel
theorem dX10_buyableBy_44 : decode cX10_buyableBy 44 = .ok (.istore_n 2, 1) := by decide +kernel
theorem dX10_buyableBy_45 : decode cX10_buyableBy 45 = .ok (.iinc 3 1, 3) := by decide +kernel
theorem dX10_buyableBy_48 : decode cX10_buyableBy 48 = .ok (.goto (-44), 3) := by decide +kernel
theorem dX10_buyableBy_36 : decode cX10_buyableBy 36 = .ok (.iconst 1, 1) := by decide +kernel
theorem dX10_buyableBy_37 : decode cX10_buyableBy 37 = .ok (.iload_n 3, 1) := by decide +kernel
theorem dX10_buyableBy_38 : decode cX10_buyableBy 38 = .ok (.ishl, 1) := by decide +kernel
theorem dX10_buyableBy_39 : decode cX10_buyableBy 39 = .ok (.goto 4, 3) := by decide +kernel
theorem dX10_priceOfAll_0 : decode cX10_priceOfAll 0 = .ok (.iconst 0, 1) := by decide +kernel
theorem dX10_priceOfAll_1 : decode cX10_priceOfAll 1 = .ok (.istore_n 2, 1) := by decide +kernel
theorem dX10_priceOfAll_2 : decode cX10_priceOfAll 2 = .ok (.iconst 0, 1) := by decide +kernel
theorem dX10_priceOfAll_3 : decode cX10_priceOfAll 3 = .ok (.istore_n 3, 1) := by decide +kernel
theorem dX10_priceOfAll_4 : decode cX10_priceOfAll 4 = .ok (.iload_n 3, 1) := by decide +kernel
theorem dX10_priceOfAll_5 : decode cX10_priceOfAll 5 = .ok (.aload_n 0, 1) := by decide +kernel
theorem dX10_priceOfAll_6 : decode cX10_priceOfAll 6 = .ok (.getfield 24, 3) := by decide +kernel
theorem dX10_priceOfAll_9 : decode cX10_priceOfAll 9 = .ok (.getfield 64, 3) := by decide +kernel
theorem dX10_priceOfAll_12 : decode cX10_priceOfAll 12 = .ok (.if_icmp .ge 37, 3) := by decide +kernel
theorem dX10_priceOfAll_49 : decode cX10_priceOfAll 49 = .ok (.iload_n 2, 1) := by decide +kernel
theorem dX10_priceOfAll_50 : decode cX10_priceOfAll 50 = .ok (.ireturn, 1) := by decide +kernel
theorem dX10_priceOfAll_15 : decode cX10_priceOfAll 15 = .ok (.iload_n 2, 1) := by decide +kernel
theorem dX10_priceOfAll_16 : decode cX10_priceOfAll 16 = .ok (.iload_n 1, 1) := by decide +kernel
theorem dX10_priceOfAll_17 : decode cX10_priceOfAll 17 = .ok (.iload_n 3, 1) := by decide +kernel
theorem dX10_priceOfAll_18 : decode cX10_priceOfAll 18 = .ok (.invokestatic 41, 3) := by decide +kernel
theorem dX10_priceOfAll_21 : decode cX10_priceOfAll 21 = .ok (.ifCond .eq 19, 3) := by decide +kernel
theorem dX10_priceOfAll_40 : decode cX10_priceOfAll 40 = .ok (.iconst 0, 1) := by decide +kernel
theorem dX10_priceOfAll_41 : decode cX10_priceOfAll 41 = .ok (.iadd, 1) := by decide +kernel
theorem dX10_priceOfAll_42 : decode cX10_priceOfAll 42 = .ok (.istore_n 2, 1) := by decide +kernel
theorem dX10_priceOfAll_43 : decode cX10_priceOfAll 43 = .ok (.iinc 3 1, 3) := by decide +kernel
theorem dX10_priceOfAll_46 : decode cX10_priceOfAll 46 = .ok (.goto (-42), 3) := by decide +kernel
theorem dX10_priceOfAll_24 : decode cX10_priceOfAll 24 = .ok (.aload_n 0, 1) := by decide +kernel
theorem dX10_priceOfAll_25 : decode cX10_priceOfAll 25 = .ok (.aload_n 0, 1) := by decide +kernel
theorem dX10_priceOfAll_26 : decode cX10_priceOfAll 26 = .ok (.getfield 24, 3) := by decide +kernel
theorem dX10_priceOfAll_29 : decode cX10_priceOfAll 29 = .ok (.getfield 67, 3) := by decide +kernel
theorem dX10_priceOfAll_32 : decode cX10_priceOfAll 32 = .ok (.iload_n 3, 1) := by decide +kernel
theorem dX10_priceOfAll_33 : decode cX10_priceOfAll 33 = .ok (.aaload, 1) := by decide +kernel
theorem dX10_priceOfAll_34 : decode cX10_priceOfAll 34 = .ok (.invokevirtual 98, 3) := by decide +kernel
theorem dX10_priceOfAll_37 : decode cX10_priceOfAll 37 = .ok (.goto 4, 3) := by decide +kernel
theorem dX10_bearerFact_0 : decode cX10_bearerFact 0 = .ok (.iload_n 2, 1) := by decide +kernel
theorem dX10_bearerFact_1 : decode cX10_bearerFact 1 = .ok (.tableswitch 60 0 2 #[27, 34, 44], 27) := by decide +kernel
theorem dX10_bearerFact_61 : decode cX10_bearerFact 61 = .ok (.aload_n 0, 1) := by decide +kernel
theorem dX10_bearerFact_62 : decode cX10_bearerFact 62 = .ok (.iload_n 1, 1) := by decide +kernel
theorem dX10_bearerFact_63 : decode cX10_bearerFact 63 = .ok (.invokevirtual 61, 3) := by decide +kernel
theorem dX10_bearerFact_66 : decode cX10_bearerFact 66 = .ok (.ireturn, 1) := by decide +kernel
theorem dX10_bearerFact_28 : decode cX10_bearerFact 28 = .ok (.aload_n 0, 1) := by decide +kernel
theorem dX10_bearerFact_29 : decode cX10_bearerFact 29 = .ok (.getfield 9, 3) := by decide +kernel
theorem dX10_bearerFact_32 : decode cX10_bearerFact 32 = .ok (.iload_n 1, 1) := by decide +kernel
theorem dX10_bearerFact_33 : decode cX10_bearerFact 33 = .ok (.iaload, 1) := by decide +kernel
theorem dX10_bearerFact_34 : decode cX10_bearerFact 34 = .ok (.ireturn, 1) := by decide +kernel
theorem dX10_bearerFact_35 : decode cX10_bearerFact 35 = .ok (.aload_n 0, 1) := by decide +kernel
theorem dX10_bearerFact_36 : decode cX10_bearerFact 36 = .ok (.getfield 24, 3) := by decide +kernel
theorem dX10_bearerFact_39 : decode cX10_bearerFact 39 = .ok (.getfield 45, 3) := by decide +kernel
theorem dX10_bearerFact_42 : decode cX10_bearerFact 42 = .ok (.iload_n 1, 1) := by decide +kernel
theorem dX10_bearerFact_43 : decode cX10_bearerFact 43 = .ok (.iaload, 1) := by decide +kernel
theorem dX10_bearerFact_44 : decode cX10_bearerFact 44 = .ok (.ireturn, 1) := by decide +kernel
theorem dX10_bearerFact_45 : decode cX10_bearerFact 45 = .ok (.aload_n 0, 1) := by decide +kernel
theorem dX10_bearerFact_46 : decode cX10_bearerFact 46 = .ok (.iload_n 1, 1) := by decide +kernel
theorem dX10_bearerFact_47 : decode cX10_bearerFact 47 = .ok (.aload_n 0, 1) := by decide +kernel
theorem dX10_bearerFact_48 : decode cX10_bearerFact 48 = .ok (.getfield 24, 3) := by decide +kernel
theorem dX10_bearerFact_51 : decode cX10_bearerFact 51 = .ok (.getfield 48, 3) := by decide +kernel
theorem dX10_bearerFact_54 : decode cX10_bearerFact 54 = .ok (.invokevirtual 51, 3) := by decide +kernel
theorem dX10_bearerFact_57 : decode cX10_bearerFact 57 = .ok (.invokestatic 55, 3) := by decide +kernel
theorem dX10_bearerFact_60 : decode cX10_bearerFact 60 = .ok (.ireturn, 1) := by decide +kernel
theorem dX10_digestOn_0 : decode cX10_digestOn 0 = .ok (.lload_n 1, 1) := by decide +kernel
theorem dX10_digestOn_1 : decode cX10_digestOn 1 = .ok (.lstore_n 3, 1) := by decide +kernel
theorem dX10_digestOn_2 : decode cX10_digestOn 2 = .ok (.iconst 0, 1) := by decide +kernel
theorem dX10_digestOn_3 : decode cX10_digestOn 3 = .ok (.istore 5, 2) := by decide +kernel
theorem dX10_digestOn_5 : decode cX10_digestOn 5 = .ok (.iload 5, 2) := by decide +kernel
theorem dX10_digestOn_7 : decode cX10_digestOn 7 = .ok (.aload_n 0, 1) := by decide +kernel
theorem dX10_digestOn_8 : decode cX10_digestOn 8 = .ok (.getfield 34, 3) := by decide +kernel
theorem dX10_digestOn_11 : decode cX10_digestOn 11 = .ok (.if_icmp .ge 40, 3) := by decide +kernel
theorem dX10_digestOn_51 : decode cX10_digestOn 51 = .ok (.iconst 0, 1) := by decide +kernel
theorem dX10_digestOn_52 : decode cX10_digestOn 52 = .ok (.istore 5, 2) := by decide +kernel
theorem dX10_digestOn_54 : decode cX10_digestOn 54 = .ok (.iload 5, 2) := by decide +kernel
theorem dX10_digestOn_56 : decode cX10_digestOn 56 = .ok (.aload_n 0, 1) := by decide +kernel
theorem dX10_digestOn_57 : decode cX10_digestOn 57 = .ok (.getfield 38, 3) := by decide +kernel
theorem dX10_digestOn_60 : decode cX10_digestOn 60 = .ok (.if_icmp .ge 59, 3) := by decide +kernel
theorem dX10_digestOn_119 : decode cX10_digestOn 119 = .ok (.iconst 0, 1) := by decide +kernel
theorem dX10_digestOn_120 : decode cX10_digestOn 120 = .ok (.istore 5, 2) := by decide +kernel
theorem dX10_digestOn_122 : decode cX10_digestOn 122 = .ok (.iload 5, 2) := by decide +kernel
theorem dX10_digestOn_124 : decode cX10_digestOn 124 = .ok (.aload_n 0, 1) := by decide +kernel
theorem dX10_digestOn_125 : decode cX10_digestOn 125 = .ok (.getfield 24, 3) := by decide +kernel
theorem dX10_digestOn_128 : decode cX10_digestOn 128 = .ok (.getfield 64, 3) := by decide +kernel
theorem dX10_digestOn_131 : decode cX10_digestOn 131 = .ok (.if_icmp .ge 31, 3) := by decide +kernel
theorem dX10_digestOn_162 : decode cX10_digestOn 162 = .ok (.lload_n 3, 1) := by decide +kernel
theorem dX10_digestOn_163 : decode cX10_digestOn 163 = .ok (.lreturn, 1) := by decide +kernel
theorem dX10_digestOn_134 : decode cX10_digestOn 134 = .ok (.aload_n 0, 1) := by decide +kernel
theorem dX10_digestOn_135 : decode cX10_digestOn 135 = .ok (.getfield 24, 3) := by decide +kernel
theorem dX10_digestOn_138 : decode cX10_digestOn 138 = .ok (.getfield 67, 3) := by decide +kernel
theorem dX10_digestOn_141 : decode cX10_digestOn 141 = .ok (.iload 5, 2) := by decide +kernel
theorem dX10_digestOn_143 : decode cX10_digestOn 143 = .ok (.aaload, 1) := by decide +kernel
theorem dX10_digestOn_144 : decode cX10_digestOn 144 = .ok (.lload_n 3, 1) := by decide +kernel
theorem dX10_digestOn_145 : decode cX10_digestOn 145 = .ok (.aload_n 0, 1) := by decide +kernel
theorem dX10_digestOn_146 : decode cX10_digestOn 146 = .ok (.getfield 24, 3) := by decide +kernel
theorem dX10_digestOn_149 : decode cX10_digestOn 149 = .ok (.getfield 95, 3) := by decide +kernel
theorem dX10_digestOn_152 : decode cX10_digestOn 152 = .ok (.invokevirtual 137, 3) := by decide +kernel
theorem dX10_digestOn_155 : decode cX10_digestOn 155 = .ok (.lstore_n 3, 1) := by decide +kernel
theorem dX10_digestOn_156 : decode cX10_digestOn 156 = .ok (.iinc 5 1, 3) := by decide +kernel
theorem dX10_digestOn_159 : decode cX10_digestOn 159 = .ok (.goto (-37), 3) := by decide +kernel
theorem dX10_digestOn_63 : decode cX10_digestOn 63 = .ok (.ldc2_w 132, 3) := by decide +kernel
theorem dX10_digestOn_66 : decode cX10_digestOn 66 = .ok (.lload_n 3, 1) := by decide +kernel
theorem dX10_digestOn_67 : decode cX10_digestOn 67 = .ok (.lmul, 1) := by decide +kernel
theorem dX10_digestOn_68 : decode cX10_digestOn 68 = .ok (.aload_n 0, 1) := by decide +kernel
theorem dX10_digestOn_69 : decode cX10_digestOn 69 = .ok (.getfield 15, 3) := by decide +kernel
theorem dX10_digestOn_72 : decode cX10_digestOn 72 = .ok (.iload 5, 2) := by decide +kernel
theorem dX10_digestOn_74 : decode cX10_digestOn 74 = .ok (.iaload, 1) := by decide +kernel
theorem dX10_digestOn_75 : decode cX10_digestOn 75 = .ok (.i2l, 1) := by decide +kernel
theorem dX10_digestOn_76 : decode cX10_digestOn 76 = .ok (.ladd, 1) := by decide +kernel
theorem dX10_digestOn_77 : decode cX10_digestOn 77 = .ok (.lstore_n 3, 1) := by decide +kernel
theorem dX10_digestOn_78 : decode cX10_digestOn 78 = .ok (.ldc2_w 132, 3) := by decide +kernel
theorem dX10_digestOn_81 : decode cX10_digestOn 81 = .ok (.lload_n 3, 1) := by decide +kernel
theorem dX10_digestOn_82 : decode cX10_digestOn 82 = .ok (.lmul, 1) := by decide +kernel
theorem dX10_digestOn_83 : decode cX10_digestOn 83 = .ok (.aload_n 0, 1) := by decide +kernel
theorem dX10_digestOn_84 : decode cX10_digestOn 84 = .ok (.getfield 18, 3) := by decide +kernel
theorem dX10_digestOn_87 : decode cX10_digestOn 87 = .ok (.iload 5, 2) := by decide +kernel
theorem dX10_digestOn_89 : decode cX10_digestOn 89 = .ok (.iaload, 1) := by decide +kernel
theorem dX10_digestOn_90 : decode cX10_digestOn 90 = .ok (.i2l, 1) := by decide +kernel
theorem dX10_digestOn_91 : decode cX10_digestOn 91 = .ok (.ladd, 1) := by decide +kernel
theorem dX10_digestOn_92 : decode cX10_digestOn 92 = .ok (.lstore_n 3, 1) := by decide +kernel
theorem dX10_digestOn_93 : decode cX10_digestOn 93 = .ok (.ldc2_w 132, 3) := by decide +kernel
theorem dX10_digestOn_96 : decode cX10_digestOn 96 = .ok (.lload_n 3, 1) := by decide +kernel
theorem dX10_digestOn_97 : decode cX10_digestOn 97 = .ok (.lmul, 1) := by decide +kernel
theorem dX10_digestOn_98 : decode cX10_digestOn 98 = .ok (.aload_n 0, 1) := by decide +kernel
theorem dX10_digestOn_99 : decode cX10_digestOn 99 = .ok (.getfield 24, 3) := by decide +kernel
theorem dX10_digestOn_102 : decode cX10_digestOn 102 = .ok (.getfield 48, 3) := by decide +kernel
theorem dX10_digestOn_105 : decode cX10_digestOn 105 = .ok (.iload 5, 2) := by decide +kernel
theorem dX10_digestOn_107 : decode cX10_digestOn 107 = .ok (.ishr, 1) := by decide +kernel
theorem dX10_digestOn_108 : decode cX10_digestOn 108 = .ok (.iconst 1, 1) := by decide +kernel
theorem dX10_digestOn_109 : decode cX10_digestOn 109 = .ok (.iand, 1) := by decide +kernel
theorem dX10_digestOn_110 : decode cX10_digestOn 110 = .ok (.i2l, 1) := by decide +kernel
theorem dX10_digestOn_111 : decode cX10_digestOn 111 = .ok (.ladd, 1) := by decide +kernel
theorem dX10_digestOn_112 : decode cX10_digestOn 112 = .ok (.lstore_n 3, 1) := by decide +kernel
theorem dX10_digestOn_113 : decode cX10_digestOn 113 = .ok (.iinc 5 1, 3) := by decide +kernel
theorem dX10_digestOn_116 : decode cX10_digestOn 116 = .ok (.goto (-62), 3) := by decide +kernel
theorem dX10_digestOn_14 : decode cX10_digestOn 14 = .ok (.iconst 0, 1) := by decide +kernel
theorem dX10_digestOn_15 : decode cX10_digestOn 15 = .ok (.istore 6, 2) := by decide +kernel
theorem dX10_digestOn_17 : decode cX10_digestOn 17 = .ok (.iload 6, 2) := by decide +kernel
theorem dX10_digestOn_19 : decode cX10_digestOn 19 = .ok (.iconst 4, 1) := by decide +kernel
theorem dX10_digestOn_20 : decode cX10_digestOn 20 = .ok (.if_icmp .ge 25, 3) := by decide +kernel
theorem dX10_digestOn_45 : decode cX10_digestOn 45 = .ok (.iinc 5 1, 3) := by decide +kernel
theorem dX10_digestOn_48 : decode cX10_digestOn 48 = .ok (.goto (-43), 3) := by decide +kernel
theorem dX10_digestOn_23 : decode cX10_digestOn 23 = .ok (.ldc2_w 132, 3) := by decide +kernel
theorem dX10_digestOn_26 : decode cX10_digestOn 26 = .ok (.lload_n 3, 1) := by decide +kernel
theorem dX10_digestOn_27 : decode cX10_digestOn 27 = .ok (.lmul, 1) := by decide +kernel
theorem dX10_digestOn_28 : decode cX10_digestOn 28 = .ok (.aload_n 0, 1) := by decide +kernel
theorem dX10_digestOn_29 : decode cX10_digestOn 29 = .ok (.iload 5, 2) := by decide +kernel
theorem dX10_digestOn_31 : decode cX10_digestOn 31 = .ok (.iload 6, 2) := by decide +kernel
theorem dX10_digestOn_33 : decode cX10_digestOn 33 = .ok (.invokevirtual 134, 3) := by decide +kernel
theorem dX10_digestOn_36 : decode cX10_digestOn 36 = .ok (.i2l, 1) := by decide +kernel
theorem dX10_digestOn_37 : decode cX10_digestOn 37 = .ok (.ladd, 1) := by decide +kernel
theorem dX10_digestOn_38 : decode cX10_digestOn 38 = .ok (.lstore_n 3, 1) := by decide +kernel
theorem dX10_digestOn_39 : decode cX10_digestOn 39 = .ok (.iinc 6 1, 3) := by decide +kernel
theorem dX10_digestOn_42 : decode cX10_digestOn 42 = .ok (.goto (-25), 3) := by decide +kernel
