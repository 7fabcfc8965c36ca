theorem dX11_refusedPlace_0 : decode cX11_refusedPlace 0 = .ok (.aload_n 0, 1) := by decide +kernel
theorem dX11_refusedPlace_1 : decode cX11_refusedPlace 1 = .ok (.iload_n 1, 1) := by decide +kernel
theorem dX11_refusedPlace_2 : decode cX11_refusedPlace 2 = .ok (.invokevirtual 92, 3) := by decide +kernel
theorem dX11_refusedPlace_5 : decode cX11_refusedPlace 5 = .ok (.istore_n 3, 1) := by decide +kernel
theorem dX11_refusedPlace_6 : decode cX11_refusedPlace 6 = .ok (.iload_n 3, 1) := by decide +kernel
theorem dX11_refusedPlace_7 : decode cX11_refusedPlace 7 = .ok (.ifCond .eq 5, 3) := by decide +kernel
theorem dX11_refusedPlace_12 : decode cX11_refusedPlace 12 = .ok (.iload_n 2, 1) := by decide +kernel
theorem dX11_refusedPlace_13 : decode cX11_refusedPlace 13 = .ok (.ifCond .lt 16, 3) := by decide +kernel
theorem dX11_refusedPlace_29 : decode cX11_refusedPlace 29 = .ok (.aload_n 0, 1) := by decide +kernel
theorem dX11_refusedPlace_30 : decode cX11_refusedPlace 30 = .ok (.iconst 2, 1) := by decide +kernel
theorem dX11_refusedPlace_31 : decode cX11_refusedPlace 31 = .ok (.invokevirtual 73, 3) := by decide +kernel
theorem dX11_refusedPlace_34 : decode cX11_refusedPlace 34 = .ok (.goto 4, 3) := by decide +kernel
theorem dX11_refusedPlace_38 : decode cX11_refusedPlace 38 = .ok (.ireturn, 1) := by decide +kernel
theorem dX11_refusedPlace_16 : decode cX11_refusedPlace 16 = .ok (.iload_n 2, 1) := by decide +kernel
theorem dX11_refusedPlace_17 : decode cX11_refusedPlace 17 = .ok (.aload_n 0, 1) := by decide +kernel
theorem dX11_refusedPlace_18 : decode cX11_refusedPlace 18 = .ok (.getfield 11, 3) := by decide +kernel
theorem dX11_refusedPlace_21 : decode cX11_refusedPlace 21 = .ok (.iload_n 1, 1) := by decide +kernel
theorem dX11_refusedPlace_22 : decode cX11_refusedPlace 22 = .ok (.aaload, 1) := by decide +kernel
theorem dX11_refusedPlace_23 : decode cX11_refusedPlace 23 = .ok (.getfield 95, 3) := by decide +kernel
theorem dX11_refusedPlace_26 : decode cX11_refusedPlace 26 = .ok (.if_icmp .lt 11, 3) := by decide +kernel
theorem dX11_refusedPlace_37 : decode cX11_refusedPlace 37 = .ok (.iconst 0, 1) := by decide +kernel
theorem dX11_refusedPlace_10 : decode cX11_refusedPlace 10 = .ok (.iload_n 3, 1) := by decide +kernel
theorem dX11_refusedPlace_11 : decode cX11_refusedPlace 11 = .ok (.ireturn, 1) := by decide +kernel
theorem dX11_refusedLetter_0 : decode cX11_refusedLetter 0 = .ok (.iload_n 1, 1) := by decide +kernel
theorem dX11_refusedLetter_1 : decode cX11_refusedLetter 1 = .ok (.ifCond .lt 7, 3) := by decide +kernel
theorem dX11_refusedLetter_8 : decode cX11_refusedLetter 8 = .ok (.iconst (-1), 1) := by decide +kernel
theorem dX11_refusedLetter_9 : decode cX11_refusedLetter 9 = .ok (.ireturn, 1) := by decide +kernel
theorem dX11_refusedLetter_4 : decode cX11_refusedLetter 4 = .ok (.iload_n 2, 1) := by decide +kernel
theorem dX11_refusedLetter_5 : decode cX11_refusedLetter 5 = .ok (.ifCond .eq 5, 3) := by decide +kernel
theorem dX11_refusedLetter_10 : decode cX11_refusedLetter 10 = .ok (.iload_n 1, 1) := by decide +kernel
theorem dX11_refusedLetter_11 : decode cX11_refusedLetter 11 = .ok (.aload_n 0, 1) := by decide +kernel
theorem dX11_refusedLetter_12 : decode cX11_refusedLetter 12 = .ok (.getfield 30, 3) := by decide +kernel
theorem dX11_refusedLetter_15 : decode cX11_refusedLetter 15 = .ok (.getfield 166, 3) := by decide +kernel
theorem dX11_refusedLetter_18 : decode cX11_refusedLetter 18 = .ok (.getfield 185, 3) := by decide +kernel
theorem dX11_refusedLetter_21 : decode cX11_refusedLetter 21 = .ok (.if_icmp .lt 11, 3) := by decide +kernel
theorem dX11_refusedLetter_32 : decode cX11_refusedLetter 32 = .ok (.iconst 0, 1) := by decide +kernel
theorem dX11_refusedLetter_33 : decode cX11_refusedLetter 33 = .ok (.ireturn, 1) := by decide +kernel
theorem dX11_refusedLetter_24 : decode cX11_refusedLetter 24 = .ok (.aload_n 0, 1) := by decide +kernel
theorem dX11_refusedLetter_25 : decode cX11_refusedLetter 25 = .ok (.iconst 2, 1) := by decide +kernel
theorem dX11_refusedLetter_26 : decode cX11_refusedLetter 26 = .ok (.invokevirtual 73, 3) := by decide +kernel
theorem dX11_refusedLetter_29 : decode cX11_refusedLetter 29 = .ok (.goto 4, 3) := by decide +kernel
theorem dX11_refusedRoute_0 : decode cX11_refusedRoute 0 = .ok (.aload_n 0, 1) := by decide +kernel
theorem dX11_refusedRoute_1 : decode cX11_refusedRoute 1 = .ok (.iload_n 1, 1) := by decide +kernel
theorem dX11_refusedRoute_2 : decode cX11_refusedRoute 2 = .ok (.iload_n 2, 1) := by decide +kernel
theorem dX11_refusedRoute_3 : decode cX11_refusedRoute 3 = .ok (.invokevirtual 201, 3) := by decide +kernel
theorem dX11_refusedRoute_6 : decode cX11_refusedRoute 6 = .ok (.istore_n 3, 1) := by decide +kernel
theorem dX11_refusedRoute_7 : decode cX11_refusedRoute 7 = .ok (.iload_n 3, 1) := by decide +kernel
theorem dX11_refusedRoute_8 : decode cX11_refusedRoute 8 = .ok (.ifCond .eq 5, 3) := by decide +kernel
theorem dX11_refusedRoute_13 : decode cX11_refusedRoute 13 = .ok (.aload_n 0, 1) := by decide +kernel
theorem dX11_refusedRoute_14 : decode cX11_refusedRoute 14 = .ok (.getfield 30, 3) := by decide +kernel
theorem dX11_refusedRoute_17 : decode cX11_refusedRoute 17 = .ok (.getfield 166, 3) := by decide +kernel
theorem dX11_refusedRoute_20 : decode cX11_refusedRoute 20 = .ok (.getfield 188, 3) := by decide +kernel
theorem dX11_refusedRoute_23 : decode cX11_refusedRoute 23 = .ok (.iload_n 1, 1) := by decide +kernel
theorem dX11_refusedRoute_24 : decode cX11_refusedRoute 24 = .ok (.aaload, 1) := by decide +kernel
theorem dX11_refusedRoute_25 : decode cX11_refusedRoute 25 = .ok (.getfield 219, 3) := by decide +kernel
theorem dX11_refusedRoute_28 : decode cX11_refusedRoute 28 = .ok (.ifCond .eq 8, 3) := by decide +kernel
theorem dX11_refusedRoute_36 : decode cX11_refusedRoute 36 = .ok (.iconst 0, 1) := by decide +kernel
theorem dX11_refusedRoute_37 : decode cX11_refusedRoute 37 = .ok (.ireturn, 1) := by decide +kernel
theorem dX11_refusedRoute_31 : decode cX11_refusedRoute 31 = .ok (.bipush (-4), 2) := by decide +kernel
theorem dX11_refusedRoute_33 : decode cX11_refusedRoute 33 = .ok (.goto 4, 3) := by decide +kernel
theorem dX11_refusedRoute_11 : decode cX11_refusedRoute 11 = .ok (.iload_n 3, 1) := by decide +kernel
theorem dX11_refusedRoute_12 : decode cX11_refusedRoute 12 = .ok (.ireturn, 1) := by decide +kernel
theorem dX11_refusedPrices_0 : decode cX11_refusedPrices 0 = .ok (.aload_n 0, 1) := by decide +kernel
theorem dX11_refusedPrices_1 : decode cX11_refusedPrices 1 = .ok (.getfield 30, 3) := by decide +kernel
theorem dX11_refusedPrices_4 : decode cX11_refusedPrices 4 = .ok (.iload_n 1, 1) := by decide +kernel
theorem dX11_refusedPrices_5 : decode cX11_refusedPrices 5 = .ok (.invokevirtual 142, 3) := by decide +kernel
theorem dX11_refusedPrices_8 : decode cX11_refusedPrices 8 = .ok (.ifCond .eq 7, 3) := by decide +kernel
theorem dX11_refusedPrices_11 : decode cX11_refusedPrices 11 = .ok (.iload_n 3, 1) := by decide +kernel
theorem dX11_refusedPrices_12 : decode cX11_refusedPrices 12 = .ok (.ifCond .eq 5, 3) := by decide +kernel
theorem dX11_refusedPrices_17 : decode cX11_refusedPrices 17 = .ok (.aload_n 0, 1) := by decide +kernel
theorem dX11_refusedPrices_18 : decode cX11_refusedPrices 18 = .ok (.iload_n 2, 1) := by decide +kernel
theorem dX11_refusedPrices_19 : decode cX11_refusedPrices 19 = .ok (.invokevirtual 92, 3) := by decide +kernel
theorem dX11_refusedPrices_22 : decode cX11_refusedPrices 22 = .ok (.istore 4, 2) := by decide +kernel
theorem dX11_refusedPrices_24 : decode cX11_refusedPrices 24 = .ok (.iload 4, 2) := by decide +kernel
theorem dX11_refusedPrices_26 : decode cX11_refusedPrices 26 = .ok (.ifCond .eq 6, 3) := by decide +kernel
theorem dX11_refusedPrices_32 : decode cX11_refusedPrices 32 = .ok (.aload_n 0, 1) := by decide +kernel
theorem dX11_refusedPrices_33 : decode cX11_refusedPrices 33 = .ok (.getfield 11, 3) := by decide +kernel
theorem dX11_refusedPrices_36 : decode cX11_refusedPrices 36 = .ok (.iload_n 2, 1) := by decide +kernel
theorem dX11_refusedPrices_37 : decode cX11_refusedPrices 37 = .ok (.aaload, 1) := by decide +kernel
theorem dX11_refusedPrices_38 : decode cX11_refusedPrices 38 = .ok (.getfield 95, 3) := by decide +kernel
theorem dX11_refusedPrices_41 : decode cX11_refusedPrices 41 = .ok (.bipush 6, 2) := by decide +kernel
theorem dX11_refusedPrices_43 : decode cX11_refusedPrices 43 = .ok (.if_icmp .le 11, 3) := by decide +kernel
theorem dX11_refusedPrices_54 : decode cX11_refusedPrices 54 = .ok (.iconst 0, 1) := by decide +kernel
theorem dX11_refusedPrices_55 : decode cX11_refusedPrices 55 = .ok (.ireturn, 1) := by decide +kernel
theorem dX11_refusedPrices_46 : decode cX11_refusedPrices 46 = .ok (.aload_n 0, 1) := by decide +kernel
theorem dX11_refusedPrices_47 : decode cX11_refusedPrices 47 = .ok (.iconst 5, 1) := by decide +kernel
theorem dX11_refusedPrices_48 : decode cX11_refusedPrices 48 = .ok (.invokevirtual 73, 3) := by decide +kernel
theorem dX11_refusedPrices_51 : decode cX11_refusedPrices 51 = .ok (.goto 4, 3) := by decide +kernel
theorem dX11_refusedPrices_29 : decode cX11_refusedPrices 29 = .ok (.iload 4, 2) := by decide +kernel
theorem dX11_refusedPrices_31 : decode cX11_refusedPrices 31 = .ok (.ireturn, 1) := by decide +kernel
theorem dX11_refusedPrices_15 : decode cX11_refusedPrices 15 = .ok (.iconst (-1), 1) := by decide +kernel
theorem dX11_refusedPrices_16 : decode cX11_refusedPrices 16 = .ok (.ireturn, 1) := by decide +kernel
theorem dX11_isPair_0 : decode cX11_isPair 0 = .ok (.aload_n 0, 1) := by decide +kernel
theorem dX11_isPair_1 : decode cX11_isPair 1 = .ok (.getfield 30, 3) := by decide +kernel
theorem dX11_isPair_4 : decode cX11_isPair 4 = .ok (.iload_n 1, 1) := by decide +kernel
theorem dX11_isPair_5 : decode cX11_isPair 5 = .ok (.invokevirtual 142, 3) := by decide +kernel
theorem dX11_isPair_8 : decode cX11_isPair 8 = .ok (.ifCond .eq 23, 3) := by decide +kernel
theorem dX11_isPair_11 : decode cX11_isPair 11 = .ok (.aload_n 0, 1) := by decide +kernel
theorem dX11_isPair_12 : decode cX11_isPair 12 = .ok (.getfield 30, 3) := by decide +kernel
theorem dX11_isPair_15 : decode cX11_isPair 15 = .ok (.iload_n 2, 1) := by decide +kernel
theorem dX11_isPair_16 : decode cX11_isPair 16 = .ok (.invokevirtual 142, 3) := by decide +kernel
theorem dX11_isPair_19 : decode cX11_isPair 19 = .ok (.ifCond .eq 12, 3) := by decide +kernel
theorem dX11_isPair_22 : decode cX11_isPair 22 = .ok (.iload_n 1, 1) := by decide +kernel
theorem dX11_isPair_23 : decode cX11_isPair 23 = .ok (.iload_n 2, 1) := by decide +kernel
theorem dX11_isPair_24 : decode cX11_isPair 24 = .ok (.if_icmp .eq 7, 3) := by decide +kernel
theorem dX11_isPair_31 : decode cX11_isPair 31 = .ok (.iconst 0, 1) := by decide +kernel
theorem dX11_isPair_32 : decode cX11_isPair 32 = .ok (.ireturn, 1) := by decide +kernel
theorem dX11_isPair_27 : decode cX11_isPair 27 = .ok (.iconst 1, 1) := by decide +kernel
theorem dX11_isPair_28 : decode cX11_isPair 28 = .ok (.goto 4, 3) := by decide +kernel
