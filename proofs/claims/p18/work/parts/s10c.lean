theorem dX11_hasBit_0 : decode cX11_hasBit 0 = .ok (.iload_n 0, 1) := by decide +kernel
theorem dX11_hasBit_1 : decode cX11_hasBit 1 = .ok (.iload_n 1, 1) := by decide +kernel
theorem dX11_hasBit_2 : decode cX11_hasBit 2 = .ok (.ishr, 1) := by decide +kernel
theorem dX11_hasBit_3 : decode cX11_hasBit 3 = .ok (.iconst 1, 1) := by decide +kernel
theorem dX11_hasBit_4 : decode cX11_hasBit 4 = .ok (.iand, 1) := by decide +kernel
theorem dX11_hasBit_5 : decode cX11_hasBit 5 = .ok (.ifCond .eq 7, 3) := by decide +kernel
theorem dX11_hasBit_12 : decode cX11_hasBit 12 = .ok (.iconst 0, 1) := by decide +kernel
theorem dX11_hasBit_13 : decode cX11_hasBit 13 = .ok (.ireturn, 1) := by decide +kernel
theorem dX11_hasBit_8 : decode cX11_hasBit 8 = .ok (.iconst 1, 1) := by decide +kernel
theorem dX11_hasBit_9 : decode cX11_hasBit 9 = .ok (.goto 4, 3) := by decide +kernel
theorem dX11_priceAsked_0 : decode cX11_priceAsked 0 = .ok (.iload_n 0, 1) := by decide +kernel
theorem dX11_priceAsked_1 : decode cX11_priceAsked 1 = .ok (.tableswitch 49 1 5 #[35, 39, 49, 41, 47], 35) := by decide +kernel
theorem dX11_priceAsked_50 : decode cX11_priceAsked 50 = .ok (.iload_n 1, 1) := by decide +kernel
theorem dX11_priceAsked_51 : decode cX11_priceAsked 51 = .ok (.iconst 1, 1) := by decide +kernel
theorem dX11_priceAsked_52 : decode cX11_priceAsked 52 = .ok (.iadd, 1) := by decide +kernel
theorem dX11_priceAsked_53 : decode cX11_priceAsked 53 = .ok (.ireturn, 1) := by decide +kernel
theorem dX11_priceAsked_36 : decode cX11_priceAsked 36 = .ok (.iload_n 1, 1) := by decide +kernel
theorem dX11_priceAsked_37 : decode cX11_priceAsked 37 = .ok (.iconst 3, 1) := by decide +kernel
theorem dX11_priceAsked_38 : decode cX11_priceAsked 38 = .ok (.iadd, 1) := by decide +kernel
theorem dX11_priceAsked_39 : decode cX11_priceAsked 39 = .ok (.ireturn, 1) := by decide +kernel
theorem dX11_priceAsked_40 : decode cX11_priceAsked 40 = .ok (.iload_n 1, 1) := by decide +kernel
theorem dX11_priceAsked_41 : decode cX11_priceAsked 41 = .ok (.ireturn, 1) := by decide +kernel
theorem dX11_priceAsked_42 : decode cX11_priceAsked 42 = .ok (.iconst 2, 1) := by decide +kernel
theorem dX11_priceAsked_43 : decode cX11_priceAsked 43 = .ok (.iload_n 1, 1) := by decide +kernel
theorem dX11_priceAsked_44 : decode cX11_priceAsked 44 = .ok (.iconst 3, 1) := by decide +kernel
theorem dX11_priceAsked_45 : decode cX11_priceAsked 45 = .ok (.iadd, 1) := by decide +kernel
theorem dX11_priceAsked_46 : decode cX11_priceAsked 46 = .ok (.imul, 1) := by decide +kernel
theorem dX11_priceAsked_47 : decode cX11_priceAsked 47 = .ok (.ireturn, 1) := by decide +kernel
theorem dX11_priceAsked_48 : decode cX11_priceAsked 48 = .ok (.iconst 0, 1) := by decide +kernel
theorem dX11_priceAsked_49 : decode cX11_priceAsked 49 = .ok (.ireturn, 1) := by decide +kernel
theorem dX11_isOfKind_0 : decode cX11_isOfKind 0 = .ok (.iload_n 0, 1) := by decide +kernel
theorem dX11_isOfKind_1 : decode cX11_isOfKind 1 = .ok (.iload_n 1, 1) := by decide +kernel
theorem dX11_isOfKind_2 : decode cX11_isOfKind 2 = .ok (.if_icmp .eq 27, 3) := by decide +kernel
theorem dX11_isOfKind_29 : decode cX11_isOfKind 29 = .ok (.iconst 1, 1) := by decide +kernel
theorem dX11_isOfKind_30 : decode cX11_isOfKind 30 = .ok (.goto 4, 3) := by decide +kernel
theorem dX11_isOfKind_34 : decode cX11_isOfKind 34 = .ok (.ireturn, 1) := by decide +kernel
theorem dX11_isOfKind_5 : decode cX11_isOfKind 5 = .ok (.iload_n 1, 1) := by decide +kernel
theorem dX11_isOfKind_6 : decode cX11_isOfKind 6 = .ok (.ifCond .eq 23, 3) := by decide +kernel
theorem dX11_isOfKind_9 : decode cX11_isOfKind 9 = .ok (.iload_n 0, 1) := by decide +kernel
theorem dX11_isOfKind_10 : decode cX11_isOfKind 10 = .ok (.iconst 4, 1) := by decide +kernel
theorem dX11_isOfKind_11 : decode cX11_isOfKind 11 = .ok (.if_icmp .ne 8, 3) := by decide +kernel
theorem dX11_isOfKind_19 : decode cX11_isOfKind 19 = .ok (.iload_n 0, 1) := by decide +kernel
theorem dX11_isOfKind_20 : decode cX11_isOfKind 20 = .ok (.iconst 5, 1) := by decide +kernel
theorem dX11_isOfKind_21 : decode cX11_isOfKind 21 = .ok (.if_icmp .ne 12, 3) := by decide +kernel
theorem dX11_isOfKind_33 : decode cX11_isOfKind 33 = .ok (.iconst 0, 1) := by decide +kernel
theorem dX11_isOfKind_24 : decode cX11_isOfKind 24 = .ok (.iload_n 1, 1) := by decide +kernel
theorem dX11_isOfKind_25 : decode cX11_isOfKind 25 = .ok (.iconst 2, 1) := by decide +kernel
theorem dX11_isOfKind_26 : decode cX11_isOfKind 26 = .ok (.if_icmp .ne 7, 3) := by decide +kernel
theorem dX11_isOfKind_14 : decode cX11_isOfKind 14 = .ok (.iload_n 1, 1) := by decide +kernel
theorem dX11_isOfKind_15 : decode cX11_isOfKind 15 = .ok (.iconst 1, 1) := by decide +kernel
theorem dX11_isOfKind_16 : decode cX11_isOfKind 16 = .ok (.if_icmp .eq 13, 3) := by decide +kernel
theorem dX11_isRow_0 : decode cX11_isRow 0 = .ok (.iload_n 0, 1) := by decide +kernel
theorem dX11_isRow_1 : decode cX11_isRow 1 = .ok (.ifCond .lt 13, 3) := by decide +kernel
theorem dX11_isRow_14 : decode cX11_isRow 14 = .ok (.iconst 0, 1) := by decide +kernel
theorem dX11_isRow_15 : decode cX11_isRow 15 = .ok (.ireturn, 1) := by decide +kernel
theorem dX11_isRow_4 : decode cX11_isRow 4 = .ok (.iload_n 0, 1) := by decide +kernel
theorem dX11_isRow_5 : decode cX11_isRow 5 = .ok (.bipush 6, 2) := by decide +kernel
theorem dX11_isRow_7 : decode cX11_isRow 7 = .ok (.if_icmp .ge 7, 3) := by decide +kernel
theorem dX11_isRow_10 : decode cX11_isRow 10 = .ok (.iconst 1, 1) := by decide +kernel
theorem dX11_isRow_11 : decode cX11_isRow 11 = .ok (.goto 4, 3) := by decide +kernel
theorem dX11_isText_0 : decode cX11_isText 0 = .ok (.iload_n 0, 1) := by decide +kernel
theorem dX11_isText_1 : decode cX11_isText 1 = .ok (.ifCond .lt 12, 3) := by decide +kernel
theorem dX11_isText_13 : decode cX11_isText 13 = .ok (.iconst 0, 1) := by decide +kernel
theorem dX11_isText_14 : decode cX11_isText 14 = .ok (.ireturn, 1) := by decide +kernel
theorem dX11_isText_4 : decode cX11_isText 4 = .ok (.iload_n 0, 1) := by decide +kernel
theorem dX11_isText_5 : decode cX11_isText 5 = .ok (.iconst 4, 1) := by decide +kernel
theorem dX11_isText_6 : decode cX11_isText 6 = .ok (.if_icmp .ge 7, 3) := by decide +kernel
theorem dX11_isText_9 : decode cX11_isText 9 = .ok (.iconst 1, 1) := by decide +kernel
theorem dX11_isText_10 : decode cX11_isText 10 = .ok (.goto 4, 3) := by decide +kernel
theorem dX11_isPlace_0 : decode cX11_isPlace 0 = .ok (.iload_n 0, 1) := by decide +kernel
theorem dX11_isPlace_1 : decode cX11_isPlace 1 = .ok (.ifCond .lt 12, 3) := by decide +kernel
theorem dX11_isPlace_13 : decode cX11_isPlace 13 = .ok (.iconst 0, 1) := by decide +kernel
theorem dX11_isPlace_14 : decode cX11_isPlace 14 = .ok (.ireturn, 1) := by decide +kernel
theorem dX11_isPlace_4 : decode cX11_isPlace 4 = .ok (.iload_n 0, 1) := by decide +kernel
theorem dX11_isPlace_5 : decode cX11_isPlace 5 = .ok (.iconst 3, 1) := by decide +kernel
theorem dX11_isPlace_6 : decode cX11_isPlace 6 = .ok (.if_icmp .ge 7, 3) := by decide +kernel
theorem dX11_isPlace_9 : decode cX11_isPlace 9 = .ok (.iconst 1, 1) := by decide +kernel
theorem dX11_isPlace_10 : decode cX11_isPlace 10 = .ok (.goto 4, 3) := by decide +kernel
theorem dX10_has_0 : decode cX10_has 0 = .ok (.iload_n 1, 1) := by decide +kernel
theorem dX10_has_1 : decode cX10_has 1 = .ok (.ifCond .lt 15, 3) := by decide +kernel
theorem dX10_has_16 : decode cX10_has 16 = .ok (.iconst 0, 1) := by decide +kernel
theorem dX10_has_17 : decode cX10_has 17 = .ok (.ireturn, 1) := by decide +kernel
theorem dX10_has_4 : decode cX10_has 4 = .ok (.iload_n 1, 1) := by decide +kernel
theorem dX10_has_5 : decode cX10_has 5 = .ok (.aload_n 0, 1) := by decide +kernel
theorem dX10_has_6 : decode cX10_has 6 = .ok (.getfield 34, 3) := by decide +kernel
theorem dX10_has_9 : decode cX10_has 9 = .ok (.if_icmp .ge 7, 3) := by decide +kernel
theorem dX10_has_12 : decode cX10_has 12 = .ok (.iconst 1, 1) := by decide +kernel
theorem dX10_has_13 : decode cX10_has 13 = .ok (.goto 4, 3) := by decide +kernel
theorem dX11_found_0 : decode cX11_found 0 = .ok (.aload_n 0, 1) := by decide +kernel
theorem dX11_found_1 : decode cX11_found 1 = .ok (.iload_n 1, 1) := by decide +kernel
theorem dX11_found_2 : decode cX11_found 2 = .ok (.putfield 366, 3) := by decide +kernel
theorem dX11_found_5 : decode cX11_found 5 = .ok (.aload_n 0, 1) := by decide +kernel
theorem dX11_found_6 : decode cX11_found 6 = .ok (.getfield 62, 3) := by decide +kernel
theorem dX11_found_9 : decode cX11_found 9 = .ok (.iload_n 1, 1) := by decide +kernel
theorem dX11_found_10 : decode cX11_found 10 = .ok (.dup2, 1) := by decide +kernel
theorem dX11_found_11 : decode cX11_found 11 = .ok (.iaload, 1) := by decide +kernel
theorem dX11_found_12 : decode cX11_found 12 = .ok (.iconst 1, 1) := by decide +kernel
theorem dX11_found_13 : decode cX11_found 13 = .ok (.iadd, 1) := by decide +kernel
theorem dX11_found_14 : decode cX11_found 14 = .ok (.iastore, 1) := by decide +kernel
theorem dX11_found_15 : decode cX11_found 15 = .ok (.bipush (-3), 2) := by decide +kernel
theorem dX11_found_17 : decode cX11_found 17 = .ok (.ireturn, 1) := by decide +kernel
theorem dX10_near_0 : decode cX10_near 0 = .ok (.iconst 0, 1) := by decide +kernel
theorem dX10_near_1 : decode cX10_near 1 = .ok (.istore_n 3, 1) := by decide +kernel
theorem dX10_near_2 : decode cX10_near 2 = .ok (.iconst 0, 1) := by decide +kernel
theorem dX10_near_3 : decode cX10_near 3 = .ok (.istore 4, 2) := by decide +kernel
theorem dX10_near_5 : decode cX10_near 5 = .ok (.iload 4, 2) := by decide +kernel
theorem dX10_near_7 : decode cX10_near 7 = .ok (.aload_n 0, 1) := by decide +kernel
theorem dX10_near_8 : decode cX10_near 8 = .ok (.getfield 38, 3) := by decide +kernel
theorem dX10_near_11 : decode cX10_near 11 = .ok (.if_icmp .ge 70, 3) := by decide +kernel
theorem dX10_near_81 : decode cX10_near 81 = .ok (.iload_n 3, 1) := by decide +kernel
theorem dX10_near_82 : decode cX10_near 82 = .ok (.ireturn, 1) := by decide +kernel
theorem dX10_near_14 : decode cX10_near 14 = .ok (.iload_n 2, 1) := by decide +kernel
theorem dX10_near_15 : decode cX10_near 15 = .ok (.iload 4, 2) := by decide +kernel
theorem dX10_near_17 : decode cX10_near 17 = .ok (.invokestatic 41, 3) := by decide +kernel
theorem dX10_near_20 : decode cX10_near 20 = .ok (.ifCond .eq 6, 3) := by decide +kernel
theorem dX10_near_26 : decode cX10_near 26 = .ok (.aload_n 0, 1) := by decide +kernel
theorem dX10_near_27 : decode cX10_near 27 = .ok (.getfield 15, 3) := by decide +kernel
theorem dX10_near_30 : decode cX10_near 30 = .ok (.iload 4, 2) := by decide +kernel
theorem dX10_near_32 : decode cX10_near 32 = .ok (.iaload, 1) := by decide +kernel
theorem dX10_near_33 : decode cX10_near 33 = .ok (.iload_n 1, 1) := by decide +kernel
theorem dX10_near_34 : decode cX10_near 34 = .ok (.if_icmp .ne 18, 3) := by decide +kernel
theorem dX10_near_52 : decode cX10_near 52 = .ok (.aload_n 0, 1) := by decide +kernel
theorem dX10_near_53 : decode cX10_near 53 = .ok (.getfield 18, 3) := by decide +kernel
theorem dX10_near_56 : decode cX10_near 56 = .ok (.iload 4, 2) := by decide +kernel
theorem dX10_near_58 : decode cX10_near 58 = .ok (.iaload, 1) := by decide +kernel
theorem dX10_near_59 : decode cX10_near 59 = .ok (.iload_n 1, 1) := by decide +kernel
theorem dX10_near_60 : decode cX10_near 60 = .ok (.if_icmp .ne 15, 3) := by decide +kernel
theorem dX10_near_75 : decode cX10_near 75 = .ok (.iinc 4 1, 3) := by decide +kernel
theorem dX10_near_78 : decode cX10_near 78 = .ok (.goto (-73), 3) := by decide +kernel
theorem dX10_near_63 : decode cX10_near 63 = .ok (.iload_n 3, 1) := by decide +kernel
theorem dX10_near_64 : decode cX10_near 64 = .ok (.iconst 1, 1) := by decide +kernel
theorem dX10_near_65 : decode cX10_near 65 = .ok (.aload_n 0, 1) := by decide +kernel
theorem dX10_near_66 : decode cX10_near 66 = .ok (.getfield 15, 3) := by decide +kernel
theorem dX10_near_69 : decode cX10_near 69 = .ok (.iload 4, 2) := by decide +kernel
theorem dX10_near_71 : decode cX10_near 71 = .ok (.iaload, 1) := by decide +kernel
theorem dX10_near_72 : decode cX10_near 72 = .ok (.ishl, 1) := by decide +kernel
theorem dX10_near_73 : decode cX10_near 73 = .ok (.ior, 1) := by decide +kernel
theorem dX10_near_74 : decode cX10_near 74 = .ok (.istore_n 3, 1) := by decide +kernel
theorem dX10_near_37 : decode cX10_near 37 = .ok (.iload_n 3, 1) := by decide +kernel
theorem dX10_near_38 : decode cX10_near 38 = .ok (.iconst 1, 1) := by decide +kernel
theorem dX10_near_39 : decode cX10_near 39 = .ok (.aload_n 0, 1) := by decide +kernel
theorem dX10_near_40 : decode cX10_near 40 = .ok (.getfield 18, 3) := by decide +kernel
theorem dX10_near_43 : decode cX10_near 43 = .ok (.iload 4, 2) := by decide +kernel
theorem dX10_near_45 : decode cX10_near 45 = .ok (.iaload, 1) := by decide +kernel
theorem dX10_near_46 : decode cX10_near 46 = .ok (.ishl, 1) := by decide +kernel
theorem dX10_near_47 : decode cX10_near 47 = .ok (.ior, 1) := by decide +kernel
theorem dX10_near_48 : decode cX10_near 48 = .ok (.istore_n 3, 1) := by decide +kernel
theorem dX10_near_49 : decode cX10_near 49 = .ok (.goto 26, 3) := by decide +kernel
theorem dX10_near_23 : decode cX10_near 23 = .ok (.goto 52, 3) := by decide +kernel
theorem dX6_isMissing_0 : decode cX6_isMissing 0 = .ok (.aload_n 0, 1) := by decide +kernel
theorem dX6_isMissing_1 : decode cX6_isMissing 1 = .ok (.getfield 15, 3) := by decide +kernel
theorem dX6_isMissing_4 : decode cX6_isMissing 4 = .ok (.ifCond .ge 7, 3) := by decide +kernel
theorem dX6_isMissing_11 : decode cX6_isMissing 11 = .ok (.iconst 0, 1) := by decide +kernel
theorem dX6_isMissing_12 : decode cX6_isMissing 12 = .ok (.ireturn, 1) := by decide +kernel
theorem dX6_isMissing_7 : decode cX6_isMissing 7 = .ok (.iconst 1, 1) := by decide +kernel
theorem dX6_isMissing_8 : decode cX6_isMissing 8 = .ok (.goto 4, 3) := by decide +kernel
theorem dX9_isMissing_0 : decode cX9_isMissing 0 = .ok (.aload_n 0, 1) := by decide +kernel
theorem dX9_isMissing_1 : decode cX9_isMissing 1 = .ok (.getfield 15, 3) := by decide +kernel
theorem dX9_isMissing_4 : decode cX9_isMissing 4 = .ok (.ifCond .ge 7, 3) := by decide +kernel
theorem dX9_isMissing_11 : decode cX9_isMissing 11 = .ok (.iconst 0, 1) := by decide +kernel
theorem dX9_isMissing_12 : decode cX9_isMissing 12 = .ok (.ireturn, 1) := by decide +kernel
theorem dX9_isMissing_7 : decode cX9_isMissing 7 = .ok (.iconst 1, 1) := by decide +kernel
theorem dX9_isMissing_8 : decode cX9_isMissing 8 = .ok (.goto 4, 3) := by decide +kernel
theorem dX11_refusedRow_0 : decode cX11_refusedRow 0 = .ok (.iload_n 1, 1) := by decide +kernel
theorem dX11_refusedRow_1 : decode cX11_refusedRow 1 = .ok (.invokestatic 69, 3) := by decide +kernel
theorem dX11_refusedRow_4 : decode cX11_refusedRow 4 = .ok (.ifCond .ne 5, 3) := by decide +kernel
theorem dX11_refusedRow_9 : decode cX11_refusedRow 9 = .ok (.aload_n 0, 1) := by decide +kernel
theorem dX11_refusedRow_10 : decode cX11_refusedRow 10 = .ok (.getfield 11, 3) := by decide +kernel
theorem dX11_refusedRow_13 : decode cX11_refusedRow 13 = .ok (.iload_n 1, 1) := by decide +kernel
theorem dX11_refusedRow_14 : decode cX11_refusedRow 14 = .ok (.aaload, 1) := by decide +kernel
theorem dX11_refusedRow_15 : decode cX11_refusedRow 15 = .ok (.invokevirtual 98, 3) := by decide +kernel
theorem dX11_refusedRow_18 : decode cX11_refusedRow 18 = .ok (.ifCond .eq 11, 3) := by decide +kernel
theorem dX11_refusedRow_21 : decode cX11_refusedRow 21 = .ok (.aload_n 0, 1) := by decide +kernel
theorem dX11_refusedRow_22 : decode cX11_refusedRow 22 = .ok (.iconst 1, 1) := by decide +kernel
theorem dX11_refusedRow_23 : decode cX11_refusedRow 23 = .ok (.invokevirtual 73, 3) := by decide +kernel
theorem dX11_refusedRow_26 : decode cX11_refusedRow 26 = .ok (.goto 4, 3) := by decide +kernel
theorem dX11_refusedRow_30 : decode cX11_refusedRow 30 = .ok (.ireturn, 1) := by decide +kernel
theorem dX11_refusedRow_29 : decode cX11_refusedRow 29 = .ok (.iconst 0, 1) := by decide +kernel
theorem dX11_refusedRow_7 : decode cX11_refusedRow 7 = .ok (.iconst (-1), 1) := by decide +kernel
theorem dX11_refusedRow_8 : decode cX11_refusedRow 8 = .ok (.ireturn, 1) := by decide +kernel
theorem dX11_refusedText_0 : decode cX11_refusedText 0 = .ok (.iload_n 1, 1) := by decide +kernel
theorem dX11_refusedText_1 : decode cX11_refusedText 1 = .ok (.invokestatic 112, 3) := by decide +kernel
theorem dX11_refusedText_4 : decode cX11_refusedText 4 = .ok (.ifCond .ne 5, 3) := by decide +kernel
theorem dX11_refusedText_9 : decode cX11_refusedText 9 = .ok (.aload_n 0, 1) := by decide +kernel
theorem dX11_refusedText_10 : decode cX11_refusedText 10 = .ok (.getfield 17, 3) := by decide +kernel
theorem dX11_refusedText_13 : decode cX11_refusedText 13 = .ok (.iload_n 1, 1) := by decide +kernel
theorem dX11_refusedText_14 : decode cX11_refusedText 14 = .ok (.aaload, 1) := by decide +kernel
theorem dX11_refusedText_15 : decode cX11_refusedText 15 = .ok (.invokevirtual 382, 3) := by decide +kernel
theorem dX11_refusedText_18 : decode cX11_refusedText 18 = .ok (.ifCond .eq 11, 3) := by decide +kernel
theorem dX11_refusedText_21 : decode cX11_refusedText 21 = .ok (.aload_n 0, 1) := by decide +kernel
theorem dX11_refusedText_22 : decode cX11_refusedText 22 = .ok (.iconst 1, 1) := by decide +kernel
theorem dX11_refusedText_23 : decode cX11_refusedText 23 = .ok (.invokevirtual 73, 3) := by decide +kernel
theorem dX11_refusedText_26 : decode cX11_refusedText 26 = .ok (.goto 4, 3) := by decide +kernel
theorem dX11_refusedText_30 : decode cX11_refusedText 30 = .ok (.ireturn, 1) := by decide +kernel
theorem dX11_refusedText_29 : decode cX11_refusedText 29 = .ok (.iconst 0, 1) := by decide +kernel
theorem dX11_refusedText_7 : decode cX11_refusedText 7 = .ok (.iconst (-1), 1) := by decide +kernel
theorem dX11_refusedText_8 : decode cX11_refusedText 8 = .ok (.ireturn, 1) := by decide +kernel
