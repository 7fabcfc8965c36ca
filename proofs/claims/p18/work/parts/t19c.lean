theorem dX12_setRoutes_0 : decode cX12_setRoutes 0 = .ok (.aload_n 0, 1) := by decide +kernel
theorem dX12_setRoutes_1 : decode cX12_setRoutes 1 = .ok (.iload_n 1, 1) := by decide +kernel
theorem dX12_setRoutes_2 : decode cX12_setRoutes 2 = .ok (.putfield 223, 3) := by decide +kernel
theorem dX12_setRoutes_5 : decode cX12_setRoutes 5 = .ok (.aload_n 0, 1) := by decide +kernel
theorem dX12_setRoutes_6 : decode cX12_setRoutes 6 = .ok (.iload_n 3, 1) := by decide +kernel
theorem dX12_setRoutes_7 : decode cX12_setRoutes 7 = .ok (.putfield 245, 3) := by decide +kernel
theorem dX12_setRoutes_10 : decode cX12_setRoutes 10 = .ok (.aload_n 0, 1) := by decide +kernel
theorem dX12_setRoutes_11 : decode cX12_setRoutes 11 = .ok (.iconst 0, 1) := by decide +kernel
theorem dX12_setRoutes_12 : decode cX12_setRoutes 12 = .ok (.putfield 210, 3) := by decide +kernel
theorem dX12_setRoutes_15 : decode cX12_setRoutes 15 = .ok (.aload_n 0, 1) := by decide +kernel
theorem dX12_setRoutes_16 : decode cX12_setRoutes 16 = .ok (.ldc 254, 2) := by decide +kernel
theorem dX12_setRoutes_18 : decode cX12_setRoutes 18 = .ok (.putfield 213, 3) := by decide +kernel
theorem dX12_setRoutes_21 : decode cX12_setRoutes 21 = .ok (.aload_n 0, 1) := by decide +kernel
theorem dX12_setRoutes_22 : decode cX12_setRoutes 22 = .ok (.iconst 0, 1) := by decide +kernel
theorem dX12_setRoutes_23 : decode cX12_setRoutes 23 = .ok (.putfield 216, 3) := by decide +kernel
theorem dX12_setRoutes_26 : decode cX12_setRoutes 26 = .ok (.aload_n 0, 1) := by decide +kernel
theorem dX12_setRoutes_27 : decode cX12_setRoutes 27 = .ok (.iconst 0, 1) := by decide +kernel
theorem dX12_setRoutes_28 : decode cX12_setRoutes 28 = .ok (.putfield 229, 3) := by decide +kernel
theorem dX12_setRoutes_31 : decode cX12_setRoutes 31 = .ok (.aload_n 0, 1) := by decide +kernel
theorem dX12_setRoutes_32 : decode cX12_setRoutes 32 = .ok (.iconst 0, 1) := by decide +kernel
theorem dX12_setRoutes_33 : decode cX12_setRoutes 33 = .ok (.putfield 238, 3) := by decide +kernel
theorem dX12_setRoutes_36 : decode cX12_setRoutes 36 = .ok (.aload_n 0, 1) := by decide +kernel
theorem dX12_setRoutes_37 : decode cX12_setRoutes 37 = .ok (.ldc 254, 2) := by decide +kernel
theorem dX12_setRoutes_39 : decode cX12_setRoutes 39 = .ok (.putfield 235, 3) := by decide +kernel
theorem dX12_setRoutes_42 : decode cX12_setRoutes 42 = .ok (.aload_n 0, 1) := by decide +kernel
theorem dX12_setRoutes_43 : decode cX12_setRoutes 43 = .ok (.bipush 127, 2) := by decide +kernel
theorem dX12_setRoutes_45 : decode cX12_setRoutes 45 = .ok (.putfield 232, 3) := by decide +kernel
theorem dX12_setRoutes_48 : decode cX12_setRoutes 48 = .ok (.aload_n 0, 1) := by decide +kernel
theorem dX12_setRoutes_49 : decode cX12_setRoutes 49 = .ok (.ldc 254, 2) := by decide +kernel
theorem dX12_setRoutes_51 : decode cX12_setRoutes 51 = .ok (.putfield 226, 3) := by decide +kernel
theorem dX12_setRoutes_54 : decode cX12_setRoutes 54 = .ok (.aload_n 0, 1) := by decide +kernel
theorem dX12_setRoutes_55 : decode cX12_setRoutes 55 = .ok (.getfield 55, 3) := by decide +kernel
theorem dX12_setRoutes_58 : decode cX12_setRoutes 58 = .ok (.iconst 0, 1) := by decide +kernel
theorem dX12_setRoutes_59 : decode cX12_setRoutes 59 = .ok (.iload_n 2, 1) := by decide +kernel
theorem dX12_setRoutes_60 : decode cX12_setRoutes 60 = .ok (.iastore, 1) := by decide +kernel
theorem dX12_setRoutes_61 : decode cX12_setRoutes 61 = .ok (.aload_n 0, 1) := by decide +kernel
theorem dX12_setRoutes_62 : decode cX12_setRoutes 62 = .ok (.iconst 1, 1) := by decide +kernel
theorem dX12_setRoutes_63 : decode cX12_setRoutes 63 = .ok (.iconst 1, 1) := by decide +kernel
theorem dX12_setRoutes_64 : decode cX12_setRoutes 64 = .ok (.iload_n 2, 1) := by decide +kernel
theorem dX12_setRoutes_65 : decode cX12_setRoutes 65 = .ok (.ishl, 1) := by decide +kernel
theorem dX12_setRoutes_66 : decode cX12_setRoutes 66 = .ok (.iload 4, 2) := by decide +kernel
theorem dX12_setRoutes_68 : decode cX12_setRoutes 68 = .ok (.invokevirtual 251, 3) := by decide +kernel
theorem dX12_setRoutes_71 : decode cX12_setRoutes 71 = .ok (.return_, 1) := by decide +kernel
theorem dX12_routesOf_0 : decode cX12_routesOf 0 = .ok (.aload_n 0, 1) := by decide +kernel
theorem dX12_routesOf_1 : decode cX12_routesOf 1 = .ok (.iload_n 1, 1) := by decide +kernel
theorem dX12_routesOf_2 : decode cX12_routesOf 2 = .ok (.aload_n 0, 1) := by decide +kernel
theorem dX12_routesOf_3 : decode cX12_routesOf 3 = .ok (.iload_n 1, 1) := by decide +kernel
theorem dX12_routesOf_4 : decode cX12_routesOf 4 = .ok (.iconst 5, 1) := by decide +kernel
theorem dX12_routesOf_5 : decode cX12_routesOf 5 = .ok (.invokevirtual 161, 3) := by decide +kernel
theorem dX12_routesOf_8 : decode cX12_routesOf 8 = .ok (.aload_n 0, 1) := by decide +kernel
theorem dX12_routesOf_9 : decode cX12_routesOf 9 = .ok (.iload_n 1, 1) := by decide +kernel
theorem dX12_routesOf_10 : decode cX12_routesOf 10 = .ok (.iconst 1, 1) := by decide +kernel
theorem dX12_routesOf_11 : decode cX12_routesOf 11 = .ok (.invokevirtual 161, 3) := by decide +kernel
theorem dX12_routesOf_14 : decode cX12_routesOf 14 = .ok (.aload_n 0, 1) := by decide +kernel
theorem dX12_routesOf_15 : decode cX12_routesOf 15 = .ok (.iload_n 1, 1) := by decide +kernel
theorem dX12_routesOf_16 : decode cX12_routesOf 16 = .ok (.bipush 6, 2) := by decide +kernel
theorem dX12_routesOf_18 : decode cX12_routesOf 18 = .ok (.invokevirtual 161, 3) := by decide +kernel
theorem dX12_routesOf_21 : decode cX12_routesOf 21 = .ok (.invokevirtual 255, 3) := by decide +kernel
theorem dX12_routesOf_24 : decode cX12_routesOf 24 = .ok (.return_, 1) := by decide +kernel
theorem dX12_askedRoutes_0 : decode cX12_askedRoutes 0 = .ok (.aload_n 0, 1) := by decide +kernel
theorem dX12_askedRoutes_1 : decode cX12_askedRoutes 1 = .ok (.iload_n 1, 1) := by decide +kernel
theorem dX12_askedRoutes_2 : decode cX12_askedRoutes 2 = .ok (.invokevirtual 197, 3) := by decide +kernel
theorem dX12_askedRoutes_5 : decode cX12_askedRoutes 5 = .ok (.istore_n 2, 1) := by decide +kernel
theorem dX12_askedRoutes_6 : decode cX12_askedRoutes 6 = .ok (.iload_n 2, 1) := by decide +kernel
theorem dX12_askedRoutes_7 : decode cX12_askedRoutes 7 = .ok (.ifCond .ge 5, 3) := by decide +kernel
theorem dX12_askedRoutes_12 : decode cX12_askedRoutes 12 = .ok (.aload_n 0, 1) := by decide +kernel
theorem dX12_askedRoutes_13 : decode cX12_askedRoutes 13 = .ok (.iload_n 1, 1) := by decide +kernel
theorem dX12_askedRoutes_14 : decode cX12_askedRoutes 14 = .ok (.invokevirtual 164, 3) := by decide +kernel
theorem dX12_askedRoutes_17 : decode cX12_askedRoutes 17 = .ok (.ifCond .eq 6, 3) := by decide +kernel
theorem dX12_askedRoutes_23 : decode cX12_askedRoutes 23 = .ok (.aload_n 0, 1) := by decide +kernel
theorem dX12_askedRoutes_24 : decode cX12_askedRoutes 24 = .ok (.iconst 1, 1) := by decide +kernel
theorem dX12_askedRoutes_25 : decode cX12_askedRoutes 25 = .ok (.putfield 241, 3) := by decide +kernel
theorem dX12_askedRoutes_28 : decode cX12_askedRoutes 28 = .ok (.aload_n 0, 1) := by decide +kernel
theorem dX12_askedRoutes_29 : decode cX12_askedRoutes 29 = .ok (.iload_n 1, 1) := by decide +kernel
theorem dX12_askedRoutes_30 : decode cX12_askedRoutes 30 = .ok (.invokevirtual 259, 3) := by decide +kernel
theorem dX12_askedRoutes_33 : decode cX12_askedRoutes 33 = .ok (.iconst 0, 1) := by decide +kernel
theorem dX12_askedRoutes_34 : decode cX12_askedRoutes 34 = .ok (.ireturn, 1) := by decide +kernel
theorem dX12_askedRoutes_20 : decode cX12_askedRoutes 20 = .ok (.bipush (-4), 2) := by decide +kernel
theorem dX12_askedRoutes_22 : decode cX12_askedRoutes 22 = .ok (.ireturn, 1) := by decide +kernel
theorem dX12_askedRoutes_10 : decode cX12_askedRoutes 10 = .ok (.iload_n 2, 1) := by decide +kernel
theorem dX12_askedRoutes_11 : decode cX12_askedRoutes 11 = .ok (.ireturn, 1) := by decide +kernel
theorem dX12_layRoute_0 : decode cX12_layRoute 0 = .ok (.aload_n 0, 1) := by decide +kernel
theorem dX12_layRoute_1 : decode cX12_layRoute 1 = .ok (.iload_n 1, 1) := by decide +kernel
theorem dX12_layRoute_2 : decode cX12_layRoute 2 = .ok (.iload_n 3, 1) := by decide +kernel
theorem dX12_layRoute_3 : decode cX12_layRoute 3 = .ok (.invokevirtual 263, 3) := by decide +kernel
theorem dX12_layRoute_6 : decode cX12_layRoute 6 = .ok (.pop, 1) := by decide +kernel
theorem dX12_layRoute_7 : decode cX12_layRoute 7 = .ok (.iconst 0, 1) := by decide +kernel
theorem dX12_layRoute_8 : decode cX12_layRoute 8 = .ok (.istore 4, 2) := by decide +kernel
theorem dX12_layRoute_10 : decode cX12_layRoute 10 = .ok (.iload 4, 2) := by decide +kernel
theorem dX12_layRoute_12 : decode cX12_layRoute 12 = .ok (.iload_n 3, 1) := by decide +kernel
theorem dX12_layRoute_13 : decode cX12_layRoute 13 = .ok (.if_icmp .ge 20, 3) := by decide +kernel
theorem dX12_layRoute_33 : decode cX12_layRoute 33 = .ok (.return_, 1) := by decide +kernel
theorem dX12_layRoute_16 : decode cX12_layRoute 16 = .ok (.aload_n 0, 1) := by decide +kernel
theorem dX12_layRoute_17 : decode cX12_layRoute 17 = .ok (.iload_n 1, 1) := by decide +kernel
theorem dX12_layRoute_18 : decode cX12_layRoute 18 = .ok (.iload 4, 2) := by decide +kernel
theorem dX12_layRoute_20 : decode cX12_layRoute 20 = .ok (.aload_n 2, 1) := by decide +kernel
theorem dX12_layRoute_21 : decode cX12_layRoute 21 = .ok (.iload 4, 2) := by decide +kernel
theorem dX12_layRoute_23 : decode cX12_layRoute 23 = .ok (.iaload, 1) := by decide +kernel
theorem dX12_layRoute_24 : decode cX12_layRoute 24 = .ok (.invokevirtual 92, 3) := by decide +kernel
theorem dX12_layRoute_27 : decode cX12_layRoute 27 = .ok (.iinc 4 1, 3) := by decide +kernel
theorem dX12_layRoute_30 : decode cX12_layRoute 30 = .ok (.goto (-20), 3) := by decide +kernel
