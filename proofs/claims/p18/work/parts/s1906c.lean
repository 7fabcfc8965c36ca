theorem dX8_beLike_0 : decode cX8_beLike 0 = .ok (.aload_n 1, 1) := by decide +kernel
theorem dX8_beLike_1 : decode cX8_beLike 1 = .ok (.getfield 9, 3) := by decide +kernel
theorem dX8_beLike_4 : decode cX8_beLike 4 = .ok (.iconst 0, 1) := by decide +kernel
theorem dX8_beLike_5 : decode cX8_beLike 5 = .ok (.aload_n 0, 1) := by decide +kernel
theorem dX8_beLike_6 : decode cX8_beLike 6 = .ok (.getfield 9, 3) := by decide +kernel
theorem dX8_beLike_9 : decode cX8_beLike 9 = .ok (.iconst 0, 1) := by decide +kernel
theorem dX8_beLike_10 : decode cX8_beLike 10 = .ok (.bipush 7, 2) := by decide +kernel
theorem dX8_beLike_12 : decode cX8_beLike 12 = .ok (.invokestatic 22, 3) := by decide +kernel
theorem dX8_beLike_15 : decode cX8_beLike 15 = .ok (.iconst 0, 1) := by decide +kernel
theorem dX8_beLike_16 : decode cX8_beLike 16 = .ok (.istore_n 2, 1) := by decide +kernel
theorem dX8_beLike_17 : decode cX8_beLike 17 = .ok (.iload_n 2, 1) := by decide +kernel
theorem dX8_beLike_18 : decode cX8_beLike 18 = .ok (.iconst 4, 1) := by decide +kernel
theorem dX8_beLike_19 : decode cX8_beLike 19 = .ok (.if_icmp .ge 24, 3) := by decide +kernel
theorem dX8_beLike_43 : decode cX8_beLike 43 = .ok (.aload_n 0, 1) := by decide +kernel
theorem dX8_beLike_44 : decode cX8_beLike 44 = .ok (.aload_n 1, 1) := by decide +kernel
theorem dX8_beLike_45 : decode cX8_beLike 45 = .ok (.getfield 32, 3) := by decide +kernel
theorem dX8_beLike_48 : decode cX8_beLike 48 = .ok (.putfield 32, 3) := by decide +kernel
theorem dX8_beLike_51 : decode cX8_beLike 51 = .ok (.aload_n 0, 1) := by decide +kernel
theorem dX8_beLike_52 : decode cX8_beLike 52 = .ok (.aload_n 1, 1) := by decide +kernel
theorem dX8_beLike_53 : decode cX8_beLike 53 = .ok (.getfield 36, 3) := by decide +kernel
theorem dX8_beLike_56 : decode cX8_beLike 56 = .ok (.putfield 36, 3) := by decide +kernel
theorem dX8_beLike_59 : decode cX8_beLike 59 = .ok (.aload_n 0, 1) := by decide +kernel
theorem dX8_beLike_60 : decode cX8_beLike 60 = .ok (.aload_n 1, 1) := by decide +kernel
theorem dX8_beLike_61 : decode cX8_beLike 61 = .ok (.getfield 39, 3) := by decide +kernel
theorem dX8_beLike_64 : decode cX8_beLike 64 = .ok (.putfield 39, 3) := by decide +kernel
theorem dX8_beLike_67 : decode cX8_beLike 67 = .ok (.return_, 1) := by decide +kernel
theorem dX8_beLike_22 : decode cX8_beLike 22 = .ok (.aload_n 0, 1) := by decide +kernel
theorem dX8_beLike_23 : decode cX8_beLike 23 = .ok (.getfield 17, 3) := by decide +kernel
theorem dX8_beLike_26 : decode cX8_beLike 26 = .ok (.iload_n 2, 1) := by decide +kernel
theorem dX8_beLike_27 : decode cX8_beLike 27 = .ok (.aaload, 1) := by decide +kernel
theorem dX8_beLike_28 : decode cX8_beLike 28 = .ok (.aload_n 1, 1) := by decide +kernel
theorem dX8_beLike_29 : decode cX8_beLike 29 = .ok (.getfield 17, 3) := by decide +kernel
theorem dX8_beLike_32 : decode cX8_beLike 32 = .ok (.iload_n 2, 1) := by decide +kernel
theorem dX8_beLike_33 : decode cX8_beLike 33 = .ok (.aaload, 1) := by decide +kernel
theorem dX8_beLike_34 : decode cX8_beLike 34 = .ok (.invokevirtual 28, 3) := by decide +kernel
theorem dX8_beLike_37 : decode cX8_beLike 37 = .ok (.iinc 2 1, 3) := by decide +kernel
theorem dX8_beLike_40 : decode cX8_beLike 40 = .ok (.goto (-23), 3) := by decide +kernel
