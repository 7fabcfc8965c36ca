theorem dX11_lay_0 : decode cX11_lay 0 = .ok (.aload_n 0, 1) := by decide +kernel
theorem dX11_lay_1 : decode cX11_lay 1 = .ok (.iload_n 1, 1) := by decide +kernel
theorem dX11_lay_2 : decode cX11_lay 2 = .ok (.iload_n 2, 1) := by decide +kernel
theorem dX11_lay_3 : decode cX11_lay 3 = .ok (.invokevirtual 81, 3) := by decide +kernel
theorem dX11_lay_6 : decode cX11_lay 6 = .ok (.istore 4, 2) := by decide +kernel
theorem dX11_lay_8 : decode cX11_lay 8 = .ok (.iload 4, 2) := by decide +kernel
theorem dX11_lay_10 : decode cX11_lay 10 = .ok (.ifCond .eq 6, 3) := by decide +kernel
theorem dX11_lay_16 : decode cX11_lay 16 = .ok (.aload_n 0, 1) := by decide +kernel
theorem dX11_lay_17 : decode cX11_lay 17 = .ok (.aload_n 0, 1) := by decide +kernel
theorem dX11_lay_18 : decode cX11_lay 18 = .ok (.getfield 11, 3) := by decide +kernel
theorem dX11_lay_21 : decode cX11_lay 21 = .ok (.iload_n 1, 1) := by decide +kernel
theorem dX11_lay_22 : decode cX11_lay 22 = .ok (.aaload, 1) := by decide +kernel
theorem dX11_lay_23 : decode cX11_lay 23 = .ok (.getfield 85, 3) := by decide +kernel
theorem dX11_lay_26 : decode cX11_lay 26 = .ok (.iload_n 2, 1) := by decide +kernel
theorem dX11_lay_27 : decode cX11_lay 27 = .ok (.iaload, 1) := by decide +kernel
theorem dX11_lay_28 : decode cX11_lay 28 = .ok (.putfield 88, 3) := by decide +kernel
theorem dX11_lay_31 : decode cX11_lay 31 = .ok (.aload_n 0, 1) := by decide +kernel
theorem dX11_lay_32 : decode cX11_lay 32 = .ok (.getfield 11, 3) := by decide +kernel
theorem dX11_lay_35 : decode cX11_lay 35 = .ok (.iload_n 1, 1) := by decide +kernel
theorem dX11_lay_36 : decode cX11_lay 36 = .ok (.aaload, 1) := by decide +kernel
theorem dX11_lay_37 : decode cX11_lay 37 = .ok (.getfield 85, 3) := by decide +kernel
theorem dX11_lay_40 : decode cX11_lay 40 = .ok (.iload_n 2, 1) := by decide +kernel
theorem dX11_lay_41 : decode cX11_lay 41 = .ok (.iload_n 3, 1) := by decide +kernel
theorem dX11_lay_42 : decode cX11_lay 42 = .ok (.iastore, 1) := by decide +kernel
theorem dX11_lay_43 : decode cX11_lay 43 = .ok (.iconst 1, 1) := by decide +kernel
theorem dX11_lay_44 : decode cX11_lay 44 = .ok (.ireturn, 1) := by decide +kernel
theorem dX11_lay_13 : decode cX11_lay 13 = .ok (.iload 4, 2) := by decide +kernel
theorem dX11_lay_15 : decode cX11_lay 15 = .ok (.ireturn, 1) := by decide +kernel
theorem dX11_at_0 : decode cX11_at 0 = .ok (.aload_n 0, 1) := by decide +kernel
theorem dX11_at_1 : decode cX11_at 1 = .ok (.iload_n 1, 1) := by decide +kernel
theorem dX11_at_2 : decode cX11_at 2 = .ok (.iload_n 2, 1) := by decide +kernel
theorem dX11_at_3 : decode cX11_at 3 = .ok (.invokevirtual 81, 3) := by decide +kernel
theorem dX11_at_6 : decode cX11_at 6 = .ok (.istore_n 3, 1) := by decide +kernel
theorem dX11_at_7 : decode cX11_at 7 = .ok (.iload_n 3, 1) := by decide +kernel
theorem dX11_at_8 : decode cX11_at 8 = .ok (.ifCond .eq 5, 3) := by decide +kernel
theorem dX11_at_13 : decode cX11_at 13 = .ok (.aload_n 0, 1) := by decide +kernel
theorem dX11_at_14 : decode cX11_at 14 = .ok (.aload_n 0, 1) := by decide +kernel
theorem dX11_at_15 : decode cX11_at 15 = .ok (.getfield 11, 3) := by decide +kernel
theorem dX11_at_18 : decode cX11_at 18 = .ok (.iload_n 1, 1) := by decide +kernel
theorem dX11_at_19 : decode cX11_at 19 = .ok (.aaload, 1) := by decide +kernel
theorem dX11_at_20 : decode cX11_at 20 = .ok (.getfield 85, 3) := by decide +kernel
theorem dX11_at_23 : decode cX11_at 23 = .ok (.iload_n 2, 1) := by decide +kernel
theorem dX11_at_24 : decode cX11_at 24 = .ok (.iaload, 1) := by decide +kernel
theorem dX11_at_25 : decode cX11_at 25 = .ok (.putfield 88, 3) := by decide +kernel
theorem dX11_at_28 : decode cX11_at 28 = .ok (.iconst 1, 1) := by decide +kernel
theorem dX11_at_29 : decode cX11_at 29 = .ok (.ireturn, 1) := by decide +kernel
theorem dX11_at_11 : decode cX11_at 11 = .ok (.iload_n 3, 1) := by decide +kernel
theorem dX11_at_12 : decode cX11_at 12 = .ok (.ireturn, 1) := by decide +kernel
theorem dX11_tear_0 : decode cX11_tear 0 = .ok (.aload_n 0, 1) := by decide +kernel
theorem dX11_tear_1 : decode cX11_tear 1 = .ok (.iload_n 1, 1) := by decide +kernel
theorem dX11_tear_2 : decode cX11_tear 2 = .ok (.invokevirtual 92, 3) := by decide +kernel
theorem dX11_tear_5 : decode cX11_tear 5 = .ok (.istore_n 2, 1) := by decide +kernel
theorem dX11_tear_6 : decode cX11_tear 6 = .ok (.iload_n 2, 1) := by decide +kernel
theorem dX11_tear_7 : decode cX11_tear 7 = .ok (.ifCond .eq 5, 3) := by decide +kernel
theorem dX11_tear_12 : decode cX11_tear 12 = .ok (.aload_n 0, 1) := by decide +kernel
theorem dX11_tear_13 : decode cX11_tear 13 = .ok (.getfield 11, 3) := by decide +kernel
theorem dX11_tear_16 : decode cX11_tear 16 = .ok (.iload_n 1, 1) := by decide +kernel
theorem dX11_tear_17 : decode cX11_tear 17 = .ok (.aaload, 1) := by decide +kernel
theorem dX11_tear_18 : decode cX11_tear 18 = .ok (.iconst (-1), 1) := by decide +kernel
theorem dX11_tear_19 : decode cX11_tear 19 = .ok (.putfield 95, 3) := by decide +kernel
theorem dX11_tear_22 : decode cX11_tear 22 = .ok (.iconst 1, 1) := by decide +kernel
theorem dX11_tear_23 : decode cX11_tear 23 = .ok (.ireturn, 1) := by decide +kernel
theorem dX11_tear_10 : decode cX11_tear 10 = .ok (.iload_n 2, 1) := by decide +kernel
theorem dX11_tear_11 : decode cX11_tear 11 = .ok (.ireturn, 1) := by decide +kernel
theorem dX11_put_0 : decode cX11_put 0 = .ok (.aload_n 0, 1) := by decide +kernel
theorem dX11_put_1 : decode cX11_put 1 = .ok (.iload_n 1, 1) := by decide +kernel
theorem dX11_put_2 : decode cX11_put 2 = .ok (.invokevirtual 118, 3) := by decide +kernel
theorem dX11_put_5 : decode cX11_put 5 = .ok (.istore 4, 2) := by decide +kernel
theorem dX11_put_7 : decode cX11_put 7 = .ok (.iload 4, 2) := by decide +kernel
theorem dX11_put_9 : decode cX11_put 9 = .ok (.ifCond .eq 6, 3) := by decide +kernel
theorem dX11_put_15 : decode cX11_put 15 = .ok (.iload_n 2, 1) := by decide +kernel
theorem dX11_put_16 : decode cX11_put 16 = .ok (.ifCond .lt 16, 3) := by decide +kernel
theorem dX11_put_32 : decode cX11_put 32 = .ok (.aload_n 0, 1) := by decide +kernel
theorem dX11_put_33 : decode cX11_put 33 = .ok (.iconst 2, 1) := by decide +kernel
theorem dX11_put_34 : decode cX11_put 34 = .ok (.invokevirtual 73, 3) := by decide +kernel
theorem dX11_put_37 : decode cX11_put 37 = .ok (.ireturn, 1) := by decide +kernel
theorem dX11_put_19 : decode cX11_put 19 = .ok (.iload_n 2, 1) := by decide +kernel
theorem dX11_put_20 : decode cX11_put 20 = .ok (.aload_n 0, 1) := by decide +kernel
theorem dX11_put_21 : decode cX11_put 21 = .ok (.getfield 17, 3) := by decide +kernel
theorem dX11_put_24 : decode cX11_put 24 = .ok (.iload_n 1, 1) := by decide +kernel
theorem dX11_put_25 : decode cX11_put 25 = .ok (.aaload, 1) := by decide +kernel
theorem dX11_put_26 : decode cX11_put 26 = .ok (.getfield 121, 3) := by decide +kernel
theorem dX11_put_29 : decode cX11_put 29 = .ok (.if_icmp .lt 9, 3) := by decide +kernel
theorem dX11_put_38 : decode cX11_put 38 = .ok (.aload_n 0, 1) := by decide +kernel
theorem dX11_put_39 : decode cX11_put 39 = .ok (.getfield 17, 3) := by decide +kernel
theorem dX11_put_42 : decode cX11_put 42 = .ok (.iload_n 1, 1) := by decide +kernel
theorem dX11_put_43 : decode cX11_put 43 = .ok (.aaload, 1) := by decide +kernel
theorem dX11_put_44 : decode cX11_put 44 = .ok (.getfield 122, 3) := by decide +kernel
theorem dX11_put_47 : decode cX11_put 47 = .ok (.iload_n 2, 1) := by decide +kernel
theorem dX11_put_48 : decode cX11_put 48 = .ok (.baload, 1) := by decide +kernel
theorem dX11_put_49 : decode cX11_put 49 = .ok (.istore 5, 2) := by decide +kernel
theorem dX11_put_51 : decode cX11_put 51 = .ok (.aload_n 0, 1) := by decide +kernel
theorem dX11_put_52 : decode cX11_put 52 = .ok (.getfield 17, 3) := by decide +kernel
theorem dX11_put_55 : decode cX11_put 55 = .ok (.iload_n 1, 1) := by decide +kernel
theorem dX11_put_56 : decode cX11_put 56 = .ok (.aaload, 1) := by decide +kernel
theorem dX11_put_57 : decode cX11_put 57 = .ok (.getfield 122, 3) := by decide +kernel
theorem dX11_put_60 : decode cX11_put 60 = .ok (.iload_n 2, 1) := by decide +kernel
theorem dX11_put_61 : decode cX11_put 61 = .ok (.iload_n 3, 1) := by decide +kernel
theorem dX11_put_62 : decode cX11_put 62 = .ok (.i2b, 1) := by decide +kernel
theorem dX11_put_63 : decode cX11_put 63 = .ok (.bastore, 1) := by decide +kernel
theorem dX11_put_64 : decode cX11_put 64 = .ok (.iload 5, 2) := by decide +kernel
theorem dX11_put_66 : decode cX11_put 66 = .ok (.sipush 1000, 3) := by decide +kernel
theorem dX11_put_69 : decode cX11_put 69 = .ok (.iadd, 1) := by decide +kernel
theorem dX11_put_70 : decode cX11_put 70 = .ok (.ireturn, 1) := by decide +kernel
theorem dX11_put_12 : decode cX11_put 12 = .ok (.iload 4, 2) := by decide +kernel
theorem dX11_put_14 : decode cX11_put 14 = .ok (.ireturn, 1) := by decide +kernel
theorem dX11_purse_0 : decode cX11_purse 0 = .ok (.aload_n 0, 1) := by decide +kernel
theorem dX11_purse_1 : decode cX11_purse 1 = .ok (.getfield 30, 3) := by decide +kernel
theorem dX11_purse_4 : decode cX11_purse 4 = .ok (.iload_n 1, 1) := by decide +kernel
theorem dX11_purse_5 : decode cX11_purse 5 = .ok (.invokevirtual 142, 3) := by decide +kernel
theorem dX11_purse_8 : decode cX11_purse 8 = .ok (.ifCond .eq 14, 3) := by decide +kernel
theorem dX11_purse_11 : decode cX11_purse 11 = .ok (.iload_n 2, 1) := by decide +kernel
theorem dX11_purse_12 : decode cX11_purse 12 = .ok (.ifCond .lt 10, 3) := by decide +kernel
theorem dX11_purse_22 : decode cX11_purse 22 = .ok (.iconst (-1), 1) := by decide +kernel
theorem dX11_purse_23 : decode cX11_purse 23 = .ok (.ireturn, 1) := by decide +kernel
theorem dX11_purse_15 : decode cX11_purse 15 = .ok (.iload_n 2, 1) := by decide +kernel
theorem dX11_purse_16 : decode cX11_purse 16 = .ok (.sipush 999, 3) := by decide +kernel
theorem dX11_purse_19 : decode cX11_purse 19 = .ok (.if_icmp .le 5, 3) := by decide +kernel
theorem dX11_purse_24 : decode cX11_purse 24 = .ok (.aload_n 0, 1) := by decide +kernel
theorem dX11_purse_25 : decode cX11_purse 25 = .ok (.getfield 30, 3) := by decide +kernel
theorem dX11_purse_28 : decode cX11_purse 28 = .ok (.getfield 166, 3) := by decide +kernel
theorem dX11_purse_31 : decode cX11_purse 31 = .ok (.getfield 170, 3) := by decide +kernel
theorem dX11_purse_34 : decode cX11_purse 34 = .ok (.iload_n 1, 1) := by decide +kernel
theorem dX11_purse_35 : decode cX11_purse 35 = .ok (.iaload, 1) := by decide +kernel
theorem dX11_purse_36 : decode cX11_purse 36 = .ok (.istore_n 3, 1) := by decide +kernel
theorem dX11_purse_37 : decode cX11_purse 37 = .ok (.aload_n 0, 1) := by decide +kernel
theorem dX11_purse_38 : decode cX11_purse 38 = .ok (.getfield 30, 3) := by decide +kernel
theorem dX11_purse_41 : decode cX11_purse 41 = .ok (.getfield 166, 3) := by decide +kernel
theorem dX11_purse_44 : decode cX11_purse 44 = .ok (.getfield 170, 3) := by decide +kernel
theorem dX11_purse_47 : decode cX11_purse 47 = .ok (.iload_n 1, 1) := by decide +kernel
theorem dX11_purse_48 : decode cX11_purse 48 = .ok (.iload_n 2, 1) := by decide +kernel
theorem dX11_purse_49 : decode cX11_purse 49 = .ok (.iastore, 1) := by decide +kernel
theorem dX11_purse_50 : decode cX11_purse 50 = .ok (.iload_n 3, 1) := by decide +kernel
theorem dX11_purse_51 : decode cX11_purse 51 = .ok (.ireturn, 1) := by decide +kernel
theorem dX11_days_0 : decode cX11_days 0 = .ok (.iload_n 1, 1) := by decide +kernel
theorem dX11_days_1 : decode cX11_days 1 = .ok (.ifCond .lt 9, 3) := by decide +kernel
theorem dX11_days_10 : decode cX11_days 10 = .ok (.iconst (-1), 1) := by decide +kernel
theorem dX11_days_11 : decode cX11_days 11 = .ok (.ireturn, 1) := by decide +kernel
theorem dX11_days_4 : decode cX11_days 4 = .ok (.iload_n 1, 1) := by decide +kernel
theorem dX11_days_5 : decode cX11_days 5 = .ok (.bipush 20, 2) := by decide +kernel
theorem dX11_days_7 : decode cX11_days 7 = .ok (.if_icmp .le 5, 3) := by decide +kernel
theorem dX11_days_12 : decode cX11_days 12 = .ok (.aload_n 0, 1) := by decide +kernel
theorem dX11_days_13 : decode cX11_days 13 = .ok (.getfield 30, 3) := by decide +kernel
theorem dX11_days_16 : decode cX11_days 16 = .ok (.getfield 166, 3) := by decide +kernel
theorem dX11_days_19 : decode cX11_days 19 = .ok (.getfield 192, 3) := by decide +kernel
theorem dX11_days_22 : decode cX11_days 22 = .ok (.iload_n 1, 1) := by decide +kernel
theorem dX11_days_23 : decode cX11_days 23 = .ok (.iadd, 1) := by decide +kernel
theorem dX11_days_24 : decode cX11_days 24 = .ok (.bipush 99, 2) := by decide +kernel
theorem dX11_days_26 : decode cX11_days 26 = .ok (.if_icmp .le 6, 3) := by decide +kernel
theorem dX11_days_32 : decode cX11_days 32 = .ok (.aload_n 0, 1) := by decide +kernel
theorem dX11_days_33 : decode cX11_days 33 = .ok (.getfield 30, 3) := by decide +kernel
theorem dX11_days_36 : decode cX11_days 36 = .ok (.getfield 166, 3) := by decide +kernel
theorem dX11_days_39 : decode cX11_days 39 = .ok (.dup, 1) := by decide +kernel
theorem dX11_days_40 : decode cX11_days 40 = .ok (.getfield 192, 3) := by decide +kernel
theorem dX11_days_43 : decode cX11_days 43 = .ok (.iload_n 1, 1) := by decide +kernel
theorem dX11_days_44 : decode cX11_days 44 = .ok (.iadd, 1) := by decide +kernel
theorem dX11_days_45 : decode cX11_days 45 = .ok (.putfield 192, 3) := by decide +kernel
theorem dX11_days_48 : decode cX11_days 48 = .ok (.aload_n 0, 1) := by decide +kernel
theorem dX11_days_49 : decode cX11_days 49 = .ok (.getfield 30, 3) := by decide +kernel
theorem dX11_days_52 : decode cX11_days 52 = .ok (.getfield 166, 3) := by decide +kernel
theorem dX11_days_55 : decode cX11_days 55 = .ok (.getfield 192, 3) := by decide +kernel
theorem dX11_days_58 : decode cX11_days 58 = .ok (.ireturn, 1) := by decide +kernel
theorem dX11_days_29 : decode cX11_days 29 = .ok (.bipush (-2), 2) := by decide +kernel
theorem dX11_days_31 : decode cX11_days 31 = .ok (.ireturn, 1) := by decide +kernel
theorem dX11_beside_0 : decode cX11_beside 0 = .ok (.aload_n 0, 1) := by decide +kernel
theorem dX11_beside_1 : decode cX11_beside 1 = .ok (.getfield 30, 3) := by decide +kernel
theorem dX11_beside_4 : decode cX11_beside 4 = .ok (.iload_n 1, 1) := by decide +kernel
theorem dX11_beside_5 : decode cX11_beside 5 = .ok (.invokevirtual 142, 3) := by decide +kernel
theorem dX11_beside_8 : decode cX11_beside 8 = .ok (.ifCond .ne 5, 3) := by decide +kernel
theorem dX11_beside_13 : decode cX11_beside 13 = .ok (.aload_n 0, 1) := by decide +kernel
theorem dX11_beside_14 : decode cX11_beside 14 = .ok (.getfield 30, 3) := by decide +kernel
theorem dX11_beside_17 : decode cX11_beside 17 = .ok (.iload_n 1, 1) := by decide +kernel
theorem dX11_beside_18 : decode cX11_beside 18 = .ok (.aload_n 0, 1) := by decide +kernel
theorem dX11_beside_19 : decode cX11_beside 19 = .ok (.getfield 30, 3) := by decide +kernel
theorem dX11_beside_22 : decode cX11_beside 22 = .ok (.getfield 166, 3) := by decide +kernel
theorem dX11_beside_25 : decode cX11_beside 25 = .ok (.getfield 176, 3) := by decide +kernel
theorem dX11_beside_28 : decode cX11_beside 28 = .ok (.invokevirtual 179, 3) := by decide +kernel
theorem dX11_beside_31 : decode cX11_beside 31 = .ok (.ireturn, 1) := by decide +kernel
theorem dX11_beside_11 : decode cX11_beside 11 = .ok (.iconst (-1), 1) := by decide +kernel
theorem dX11_beside_12 : decode cX11_beside 12 = .ok (.ireturn, 1) := by decide +kernel
theorem dX11_asks_0 : decode cX11_asks 0 = .ok (.aload_n 0, 1) := by decide +kernel
theorem dX11_asks_1 : decode cX11_asks 1 = .ok (.getfield 30, 3) := by decide +kernel
theorem dX11_asks_4 : decode cX11_asks 4 = .ok (.iload_n 1, 1) := by decide +kernel
theorem dX11_asks_5 : decode cX11_asks 5 = .ok (.invokevirtual 142, 3) := by decide +kernel
theorem dX11_asks_8 : decode cX11_asks 8 = .ok (.ifCond .eq 14, 3) := by decide +kernel
theorem dX11_asks_11 : decode cX11_asks 11 = .ok (.iload_n 2, 1) := by decide +kernel
theorem dX11_asks_12 : decode cX11_asks 12 = .ok (.ifCond .lt 10, 3) := by decide +kernel
theorem dX11_asks_22 : decode cX11_asks 22 = .ok (.iconst (-1), 1) := by decide +kernel
theorem dX11_asks_23 : decode cX11_asks 23 = .ok (.ireturn, 1) := by decide +kernel
theorem dX11_asks_15 : decode cX11_asks 15 = .ok (.iload_n 2, 1) := by decide +kernel
theorem dX11_asks_16 : decode cX11_asks 16 = .ok (.sipush 999, 3) := by decide +kernel
theorem dX11_asks_19 : decode cX11_asks 19 = .ok (.if_icmp .le 5, 3) := by decide +kernel
theorem dX11_asks_24 : decode cX11_asks 24 = .ok (.aload_n 0, 1) := by decide +kernel
theorem dX11_asks_25 : decode cX11_asks 25 = .ok (.getfield 30, 3) := by decide +kernel
theorem dX11_asks_28 : decode cX11_asks 28 = .ok (.getfield 148, 3) := by decide +kernel
theorem dX11_asks_31 : decode cX11_asks 31 = .ok (.iload_n 1, 1) := by decide +kernel
theorem dX11_asks_32 : decode cX11_asks 32 = .ok (.iaload, 1) := by decide +kernel
theorem dX11_asks_33 : decode cX11_asks 33 = .ok (.iload_n 2, 1) := by decide +kernel
theorem dX11_asks_34 : decode cX11_asks 34 = .ok (.invokestatic 154, 3) := by decide +kernel
theorem dX11_asks_37 : decode cX11_asks 37 = .ok (.ireturn, 1) := by decide +kernel
theorem dX11_where_0 : decode cX11_where 0 = .ok (.aload_n 0, 1) := by decide +kernel
theorem dX11_where_1 : decode cX11_where 1 = .ok (.iload_n 1, 1) := by decide +kernel
theorem dX11_where_2 : decode cX11_where 2 = .ok (.iconst 0, 1) := by decide +kernel
theorem dX11_where_3 : decode cX11_where 3 = .ok (.invokevirtual 201, 3) := by decide +kernel
theorem dX11_where_6 : decode cX11_where 6 = .ok (.istore_n 2, 1) := by decide +kernel
theorem dX11_where_7 : decode cX11_where 7 = .ok (.iload_n 2, 1) := by decide +kernel
theorem dX11_where_8 : decode cX11_where 8 = .ok (.ifCond .eq 5, 3) := by decide +kernel
theorem dX11_where_13 : decode cX11_where 13 = .ok (.aload_n 0, 1) := by decide +kernel
theorem dX11_where_14 : decode cX11_where 14 = .ok (.aload_n 0, 1) := by decide +kernel
theorem dX11_where_15 : decode cX11_where 15 = .ok (.getfield 30, 3) := by decide +kernel
theorem dX11_where_18 : decode cX11_where 18 = .ok (.getfield 166, 3) := by decide +kernel
theorem dX11_where_21 : decode cX11_where 21 = .ok (.getfield 188, 3) := by decide +kernel
theorem dX11_where_24 : decode cX11_where 24 = .ok (.iload_n 1, 1) := by decide +kernel
theorem dX11_where_25 : decode cX11_where 25 = .ok (.aaload, 1) := by decide +kernel
theorem dX11_where_26 : decode cX11_where 26 = .ok (.getfield 222, 3) := by decide +kernel
theorem dX11_where_29 : decode cX11_where 29 = .ok (.putfield 88, 3) := by decide +kernel
theorem dX11_where_32 : decode cX11_where 32 = .ok (.aload_n 0, 1) := by decide +kernel
theorem dX11_where_33 : decode cX11_where 33 = .ok (.getfield 30, 3) := by decide +kernel
theorem dX11_where_36 : decode cX11_where 36 = .ok (.getfield 166, 3) := by decide +kernel
theorem dX11_where_39 : decode cX11_where 39 = .ok (.getfield 188, 3) := by decide +kernel
theorem dX11_where_42 : decode cX11_where 42 = .ok (.iload_n 1, 1) := by decide +kernel
theorem dX11_where_43 : decode cX11_where 43 = .ok (.aaload, 1) := by decide +kernel
theorem dX11_where_44 : decode cX11_where 44 = .ok (.getfield 225, 3) := by decide +kernel
theorem dX11_where_47 : decode cX11_where 47 = .ok (.ireturn, 1) := by decide +kernel
theorem dX11_where_11 : decode cX11_where 11 = .ok (.iload_n 2, 1) := by decide +kernel
theorem dX11_where_12 : decode cX11_where 12 = .ok (.ireturn, 1) := by decide +kernel
theorem dX11_asked_0 : decode cX11_asked 0 = .ok (.aload_n 0, 1) := by decide +kernel
theorem dX11_asked_1 : decode cX11_asked 1 = .ok (.getfield 88, 3) := by decide +kernel
theorem dX11_asked_4 : decode cX11_asked 4 = .ok (.ireturn, 1) := by decide +kernel
theorem dX11_finding_0 : decode cX11_finding 0 = .ok (.aload_n 0, 1) := by decide +kernel
theorem dX11_finding_1 : decode cX11_finding 1 = .ok (.getfield 366, 3) := by decide +kernel
theorem dX11_finding_4 : decode cX11_finding 4 = .ok (.ireturn, 1) := by decide +kernel
theorem dX11_findings_0 : decode cX11_findings 0 = .ok (.iload_n 1, 1) := by decide +kernel
theorem dX11_findings_1 : decode cX11_findings 1 = .ok (.iconst 1, 1) := by decide +kernel
theorem dX11_findings_2 : decode cX11_findings 2 = .ok (.if_icmp .lt 8, 3) := by decide +kernel
theorem dX11_findings_10 : decode cX11_findings 10 = .ok (.iconst (-1), 1) := by decide +kernel
theorem dX11_findings_11 : decode cX11_findings 11 = .ok (.ireturn, 1) := by decide +kernel
theorem dX11_findings_5 : decode cX11_findings 5 = .ok (.iload_n 1, 1) := by decide +kernel
theorem dX11_findings_6 : decode cX11_findings 6 = .ok (.iconst 5, 1) := by decide +kernel
theorem dX11_findings_7 : decode cX11_findings 7 = .ok (.if_icmp .le 5, 3) := by decide +kernel
theorem dX11_findings_12 : decode cX11_findings 12 = .ok (.aload_n 0, 1) := by decide +kernel
theorem dX11_findings_13 : decode cX11_findings 13 = .ok (.getfield 62, 3) := by decide +kernel
theorem dX11_findings_16 : decode cX11_findings 16 = .ok (.iload_n 1, 1) := by decide +kernel
theorem dX11_findings_17 : decode cX11_findings 17 = .ok (.iaload, 1) := by decide +kernel
theorem dX11_findings_18 : decode cX11_findings 18 = .ok (.ireturn, 1) := by decide +kernel
theorem dX11_snow_0 : decode cX11_snow 0 = .ok (.iload_n 1, 1) := by decide +kernel
theorem dX11_snow_1 : decode cX11_snow 1 = .ok (.ifCond .lt 23, 3) := by decide +kernel
theorem dX11_snow_24 : decode cX11_snow 24 = .ok (.iconst (-1), 1) := by decide +kernel
theorem dX11_snow_25 : decode cX11_snow 25 = .ok (.ireturn, 1) := by decide +kernel
theorem dX11_snow_4 : decode cX11_snow 4 = .ok (.iload_n 1, 1) := by decide +kernel
theorem dX11_snow_5 : decode cX11_snow 5 = .ok (.aload_n 0, 1) := by decide +kernel
theorem dX11_snow_6 : decode cX11_snow 6 = .ok (.getfield 30, 3) := by decide +kernel
theorem dX11_snow_9 : decode cX11_snow 9 = .ok (.getfield 173, 3) := by decide +kernel
theorem dX11_snow_12 : decode cX11_snow 12 = .ok (.if_icmp .ge 12, 3) := by decide +kernel
theorem dX11_snow_15 : decode cX11_snow 15 = .ok (.iload_n 2, 1) := by decide +kernel
theorem dX11_snow_16 : decode cX11_snow 16 = .ok (.ifCond .lt 8, 3) := by decide +kernel
theorem dX11_snow_19 : decode cX11_snow 19 = .ok (.iload_n 2, 1) := by decide +kernel
theorem dX11_snow_20 : decode cX11_snow 20 = .ok (.iconst 1, 1) := by decide +kernel
theorem dX11_snow_21 : decode cX11_snow 21 = .ok (.if_icmp .le 5, 3) := by decide +kernel
theorem dX11_snow_26 : decode cX11_snow 26 = .ok (.aload_n 0, 1) := by decide +kernel
theorem dX11_snow_27 : decode cX11_snow 27 = .ok (.getfield 30, 3) := by decide +kernel
theorem dX11_snow_30 : decode cX11_snow 30 = .ok (.getfield 166, 3) := by decide +kernel
theorem dX11_snow_33 : decode cX11_snow 33 = .ok (.getfield 176, 3) := by decide +kernel
theorem dX11_snow_36 : decode cX11_snow 36 = .ok (.iload_n 1, 1) := by decide +kernel
theorem dX11_snow_37 : decode cX11_snow 37 = .ok (.ishr, 1) := by decide +kernel
theorem dX11_snow_38 : decode cX11_snow 38 = .ok (.iconst 1, 1) := by decide +kernel
theorem dX11_snow_39 : decode cX11_snow 39 = .ok (.iand, 1) := by decide +kernel
theorem dX11_snow_40 : decode cX11_snow 40 = .ok (.istore_n 3, 1) := by decide +kernel
theorem dX11_snow_41 : decode cX11_snow 41 = .ok (.aload_n 0, 1) := by decide +kernel
theorem dX11_snow_42 : decode cX11_snow 42 = .ok (.getfield 30, 3) := by decide +kernel
theorem dX11_snow_45 : decode cX11_snow 45 = .ok (.getfield 166, 3) := by decide +kernel
theorem dX11_snow_48 : decode cX11_snow 48 = .ok (.aload_n 0, 1) := by decide +kernel
theorem dX11_snow_49 : decode cX11_snow 49 = .ok (.getfield 30, 3) := by decide +kernel
theorem dX11_snow_52 : decode cX11_snow 52 = .ok (.getfield 166, 3) := by decide +kernel
theorem dX11_snow_55 : decode cX11_snow 55 = .ok (.getfield 176, 3) := by decide +kernel
theorem dX11_snow_58 : decode cX11_snow 58 = .ok (.iconst 1, 1) := by decide +kernel
theorem dX11_snow_59 : decode cX11_snow 59 = .ok (.iload_n 1, 1) := by decide +kernel
theorem dX11_snow_60 : decode cX11_snow 60 = .ok (.ishl, 1) := by decide +kernel
theorem dX11_snow_61 : decode cX11_snow 61 = .ok (.iconst (-1), 1) := by decide +kernel
theorem dX11_snow_62 : decode cX11_snow 62 = .ok (.ixor, 1) := by decide +kernel
theorem dX11_snow_63 : decode cX11_snow 63 = .ok (.iand, 1) := by decide +kernel
theorem dX11_snow_64 : decode cX11_snow 64 = .ok (.iload_n 2, 1) := by decide +kernel
theorem dX11_snow_65 : decode cX11_snow 65 = .ok (.iload_n 1, 1) := by decide +kernel
theorem dX11_snow_66 : decode cX11_snow 66 = .ok (.ishl, 1) := by decide +kernel
theorem dX11_snow_67 : decode cX11_snow 67 = .ok (.ior, 1) := by decide +kernel
theorem dX11_snow_68 : decode cX11_snow 68 = .ok (.putfield 176, 3) := by decide +kernel
theorem dX11_snow_71 : decode cX11_snow 71 = .ok (.iload_n 3, 1) := by decide +kernel
theorem dX11_snow_72 : decode cX11_snow 72 = .ok (.ireturn, 1) := by decide +kernel
