theorem dX11_fault_0 : decode cX11_fault 0 = .ok (.aload_n 0, 1) := by decide +kernel
theorem dX11_fault_1 : decode cX11_fault 1 = .ok (.iload_n 1, 1) := by decide +kernel
theorem dX11_fault_2 : decode cX11_fault 2 = .ok (.invokevirtual 118, 3) := by decide +kernel
theorem dX11_fault_5 : decode cX11_fault 5 = .ok (.istore_n 2, 1) := by decide +kernel
theorem dX11_fault_6 : decode cX11_fault 6 = .ok (.iload_n 2, 1) := by decide +kernel
theorem dX11_fault_7 : decode cX11_fault 7 = .ok (.ifCond .eq 5, 3) := by decide +kernel
theorem dX11_fault_12 : decode cX11_fault 12 = .ok (.aload_n 0, 1) := by decide +kernel
theorem dX11_fault_13 : decode cX11_fault 13 = .ok (.getfield 37, 3) := by decide +kernel
theorem dX11_fault_16 : decode cX11_fault 16 = .ok (.aload_n 0, 1) := by decide +kernel
theorem dX11_fault_17 : decode cX11_fault 17 = .ok (.getfield 17, 3) := by decide +kernel
theorem dX11_fault_20 : decode cX11_fault 20 = .ok (.iload_n 1, 1) := by decide +kernel
theorem dX11_fault_21 : decode cX11_fault 21 = .ok (.aaload, 1) := by decide +kernel
theorem dX11_fault_22 : decode cX11_fault 22 = .ok (.invokevirtual 126, 3) := by decide +kernel
theorem dX11_fault_25 : decode cX11_fault 25 = .ok (.ireturn, 1) := by decide +kernel
theorem dX11_fault_10 : decode cX11_fault 10 = .ok (.iload_n 2, 1) := by decide +kernel
theorem dX11_fault_11 : decode cX11_fault 11 = .ok (.ireturn, 1) := by decide +kernel
theorem dX11_town_0 : decode cX11_town 0 = .ok (.aload_n 0, 1) := by decide +kernel
theorem dX11_town_1 : decode cX11_town 1 = .ok (.iload_n 1, 1) := by decide +kernel
theorem dX11_town_2 : decode cX11_town 2 = .ok (.invokevirtual 118, 3) := by decide +kernel
theorem dX11_town_5 : decode cX11_town 5 = .ok (.istore_n 2, 1) := by decide +kernel
theorem dX11_town_6 : decode cX11_town 6 = .ok (.iload_n 2, 1) := by decide +kernel
theorem dX11_town_7 : decode cX11_town 7 = .ok (.ifCond .eq 5, 3) := by decide +kernel
theorem dX11_town_12 : decode cX11_town 12 = .ok (.aload_n 0, 1) := by decide +kernel
theorem dX11_town_13 : decode cX11_town 13 = .ok (.getfield 37, 3) := by decide +kernel
theorem dX11_town_16 : decode cX11_town 16 = .ok (.aload_n 0, 1) := by decide +kernel
theorem dX11_town_17 : decode cX11_town 17 = .ok (.getfield 17, 3) := by decide +kernel
theorem dX11_town_20 : decode cX11_town 20 = .ok (.iload_n 1, 1) := by decide +kernel
theorem dX11_town_21 : decode cX11_town 21 = .ok (.aaload, 1) := by decide +kernel
theorem dX11_town_22 : decode cX11_town 22 = .ok (.invokevirtual 126, 3) := by decide +kernel
theorem dX11_town_25 : decode cX11_town 25 = .ok (.bipush (-9), 2) := by decide +kernel
theorem dX11_town_27 : decode cX11_town 27 = .ok (.if_icmp .eq 6, 3) := by decide +kernel
theorem dX11_town_33 : decode cX11_town 33 = .ok (.aload_n 0, 1) := by decide +kernel
theorem dX11_town_34 : decode cX11_town 34 = .ok (.getfield 37, 3) := by decide +kernel
theorem dX11_town_37 : decode cX11_town 37 = .ok (.aload_n 0, 1) := by decide +kernel
theorem dX11_town_38 : decode cX11_town 38 = .ok (.getfield 30, 3) := by decide +kernel
theorem dX11_town_41 : decode cX11_town 41 = .ok (.invokevirtual 130, 3) := by decide +kernel
theorem dX11_town_44 : decode cX11_town 44 = .ok (.aload_n 0, 1) := by decide +kernel
theorem dX11_town_45 : decode cX11_town 45 = .ok (.getfield 44, 3) := by decide +kernel
theorem dX11_town_48 : decode cX11_town 48 = .ok (.iconst 0, 1) := by decide +kernel
theorem dX11_town_49 : decode cX11_town 49 = .ok (.putfield 134, 3) := by decide +kernel
theorem dX11_town_52 : decode cX11_town 52 = .ok (.iconst 0, 1) := by decide +kernel
theorem dX11_town_53 : decode cX11_town 53 = .ok (.istore_n 3, 1) := by decide +kernel
theorem dX11_town_54 : decode cX11_town 54 = .ok (.iload_n 3, 1) := by decide +kernel
theorem dX11_town_55 : decode cX11_town 55 = .ok (.iconst 3, 1) := by decide +kernel
theorem dX11_town_56 : decode cX11_town 56 = .ok (.if_icmp .ge 19, 3) := by decide +kernel
theorem dX11_town_75 : decode cX11_town 75 = .ok (.aload_n 0, 1) := by decide +kernel
theorem dX11_town_76 : decode cX11_town 76 = .ok (.getfield 30, 3) := by decide +kernel
theorem dX11_town_79 : decode cX11_town 79 = .ok (.getfield 139, 3) := by decide +kernel
theorem dX11_town_82 : decode cX11_town 82 = .ok (.ireturn, 1) := by decide +kernel
theorem dX11_town_59 : decode cX11_town 59 = .ok (.aload_n 0, 1) := by decide +kernel
theorem dX11_town_60 : decode cX11_town 60 = .ok (.getfield 23, 3) := by decide +kernel
theorem dX11_town_63 : decode cX11_town 63 = .ok (.iload_n 3, 1) := by decide +kernel
theorem dX11_town_64 : decode cX11_town 64 = .ok (.aaload, 1) := by decide +kernel
theorem dX11_town_65 : decode cX11_town 65 = .ok (.iconst 0, 1) := by decide +kernel
theorem dX11_town_66 : decode cX11_town 66 = .ok (.putfield 135, 3) := by decide +kernel
theorem dX11_town_69 : decode cX11_town 69 = .ok (.iinc 3 1, 3) := by decide +kernel
theorem dX11_town_72 : decode cX11_town 72 = .ok (.goto (-18), 3) := by decide +kernel
theorem dX11_town_30 : decode cX11_town 30 = .ok (.bipush (-4), 2) := by decide +kernel
theorem dX11_town_32 : decode cX11_town 32 = .ok (.ireturn, 1) := by decide +kernel
theorem dX11_town_10 : decode cX11_town 10 = .ok (.iload_n 2, 1) := by decide +kernel
theorem dX11_town_11 : decode cX11_town 11 = .ok (.ireturn, 1) := by decide +kernel
