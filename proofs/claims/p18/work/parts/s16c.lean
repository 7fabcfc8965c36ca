theorem dX4_kindSigned_0 : decode cX4_kindSigned 0 = .ok (.iconst 0, 1) := by decide +kernel
theorem dX4_kindSigned_1 : decode cX4_kindSigned 1 = .ok (.istore_n 1, 1) := by decide +kernel
theorem dX4_kindSigned_2 : decode cX4_kindSigned 2 = .ok (.iload_n 1, 1) := by decide +kernel
theorem dX4_kindSigned_3 : decode cX4_kindSigned 3 = .ok (.getstatic 54, 3) := by decide +kernel
theorem dX4_kindSigned_6 : decode cX4_kindSigned 6 = .ok (.arraylength, 1) := by decide +kernel
theorem dX4_kindSigned_7 : decode cX4_kindSigned 7 = .ok (.if_icmp .ge 20, 3) := by decide +kernel
theorem dX4_kindSigned_27 : decode cX4_kindSigned 27 = .ok (.bipush (-9), 2) := by decide +kernel
theorem dX4_kindSigned_29 : decode cX4_kindSigned 29 = .ok (.ireturn, 1) := by decide +kernel
theorem dX4_kindSigned_10 : decode cX4_kindSigned 10 = .ok (.getstatic 54, 3) := by decide +kernel
theorem dX4_kindSigned_13 : decode cX4_kindSigned 13 = .ok (.iload_n 1, 1) := by decide +kernel
theorem dX4_kindSigned_14 : decode cX4_kindSigned 14 = .ok (.caload, 1) := by decide +kernel
theorem dX4_kindSigned_15 : decode cX4_kindSigned 15 = .ok (.iload_n 0, 1) := by decide +kernel
theorem dX4_kindSigned_16 : decode cX4_kindSigned 16 = .ok (.if_icmp .ne 5, 3) := by decide +kernel
theorem dX4_kindSigned_21 : decode cX4_kindSigned 21 = .ok (.iinc 1 1, 3) := by decide +kernel
theorem dX4_kindSigned_24 : decode cX4_kindSigned 24 = .ok (.goto (-22), 3) := by decide +kernel
theorem dX4_kindSigned_19 : decode cX4_kindSigned 19 = .ok (.iload_n 1, 1) := by decide +kernel
theorem dX4_kindSigned_20 : decode cX4_kindSigned 20 = .ok (.ireturn, 1) := by decide +kernel
theorem dX4_faultInBearer_0 : decode cX4_faultInBearer 0 = .ok (.aload_n 1, 1) := by decide +kernel
theorem dX4_faultInBearer_1 : decode cX4_faultInBearer 1 = .ok (.getfield 36, 3) := by decide +kernel
theorem dX4_faultInBearer_4 : decode cX4_faultInBearer 4 = .ok (.iload_n 2, 1) := by decide +kernel
theorem dX4_faultInBearer_5 : decode cX4_faultInBearer 5 = .ok (.baload, 1) := by decide +kernel
theorem dX4_faultInBearer_6 : decode cX4_faultInBearer 6 = .ok (.invokestatic 47, 3) := by decide +kernel
theorem dX4_faultInBearer_9 : decode cX4_faultInBearer 9 = .ok (.istore_n 3, 1) := by decide +kernel
theorem dX4_faultInBearer_10 : decode cX4_faultInBearer 10 = .ok (.iload_n 3, 1) := by decide +kernel
theorem dX4_faultInBearer_11 : decode cX4_faultInBearer 11 = .ok (.bipush (-9), 2) := by decide +kernel
theorem dX4_faultInBearer_13 : decode cX4_faultInBearer 13 = .ok (.if_icmp .eq 19, 3) := by decide +kernel
theorem dX4_faultInBearer_32 : decode cX4_faultInBearer 32 = .ok (.iload_n 2, 1) := by decide +kernel
theorem dX4_faultInBearer_33 : decode cX4_faultInBearer 33 = .ok (.ireturn, 1) := by decide +kernel
theorem dX4_faultInBearer_16 : decode cX4_faultInBearer 16 = .ok (.aload_n 0, 1) := by decide +kernel
theorem dX4_faultInBearer_17 : decode cX4_faultInBearer 17 = .ok (.getfield 28, 3) := by decide +kernel
theorem dX4_faultInBearer_20 : decode cX4_faultInBearer 20 = .ok (.ifCond .gt 12, 3) := by decide +kernel
theorem dX4_faultInBearer_23 : decode cX4_faultInBearer 23 = .ok (.aload_n 0, 1) := by decide +kernel
theorem dX4_faultInBearer_24 : decode cX4_faultInBearer 24 = .ok (.getfield 24, 3) := by decide +kernel
theorem dX4_faultInBearer_27 : decode cX4_faultInBearer 27 = .ok (.bipush 7, 2) := by decide +kernel
theorem dX4_faultInBearer_29 : decode cX4_faultInBearer 29 = .ok (.if_icmp .lt 5, 3) := by decide +kernel
theorem dX4_faultInBearer_34 : decode cX4_faultInBearer 34 = .ok (.aload_n 1, 1) := by decide +kernel
theorem dX4_faultInBearer_35 : decode cX4_faultInBearer 35 = .ok (.iload_n 2, 1) := by decide +kernel
theorem dX4_faultInBearer_36 : decode cX4_faultInBearer 36 = .ok (.iconst 1, 1) := by decide +kernel
theorem dX4_faultInBearer_37 : decode cX4_faultInBearer 37 = .ok (.iadd, 1) := by decide +kernel
theorem dX4_faultInBearer_38 : decode cX4_faultInBearer 38 = .ok (.invokevirtual 51, 3) := by decide +kernel
theorem dX4_faultInBearer_41 : decode cX4_faultInBearer 41 = .ok (.istore 4, 2) := by decide +kernel
theorem dX4_faultInBearer_43 : decode cX4_faultInBearer 43 = .ok (.iload 4, 2) := by decide +kernel
theorem dX4_faultInBearer_45 : decode cX4_faultInBearer 45 = .ok (.bipush (-9), 2) := by decide +kernel
theorem dX4_faultInBearer_47 : decode cX4_faultInBearer 47 = .ok (.if_icmp .ne 7, 3) := by decide +kernel
theorem dX4_faultInBearer_54 : decode cX4_faultInBearer 54 = .ok (.aload_n 1, 1) := by decide +kernel
theorem dX4_faultInBearer_55 : decode cX4_faultInBearer 55 = .ok (.iload_n 2, 1) := by decide +kernel
theorem dX4_faultInBearer_56 : decode cX4_faultInBearer 56 = .ok (.iconst 2, 1) := by decide +kernel
theorem dX4_faultInBearer_57 : decode cX4_faultInBearer 57 = .ok (.iadd, 1) := by decide +kernel
theorem dX4_faultInBearer_58 : decode cX4_faultInBearer 58 = .ok (.invokevirtual 51, 3) := by decide +kernel
theorem dX4_faultInBearer_61 : decode cX4_faultInBearer 61 = .ok (.istore 5, 2) := by decide +kernel
theorem dX4_faultInBearer_63 : decode cX4_faultInBearer 63 = .ok (.iload 5, 2) := by decide +kernel
theorem dX4_faultInBearer_65 : decode cX4_faultInBearer 65 = .ok (.bipush (-9), 2) := by decide +kernel
theorem dX4_faultInBearer_67 : decode cX4_faultInBearer 67 = .ok (.if_icmp .ne 7, 3) := by decide +kernel
theorem dX4_faultInBearer_74 : decode cX4_faultInBearer 74 = .ok (.aload_n 0, 1) := by decide +kernel
theorem dX4_faultInBearer_75 : decode cX4_faultInBearer 75 = .ok (.getfield 9, 3) := by decide +kernel
theorem dX4_faultInBearer_78 : decode cX4_faultInBearer 78 = .ok (.aload_n 0, 1) := by decide +kernel
theorem dX4_faultInBearer_79 : decode cX4_faultInBearer 79 = .ok (.getfield 24, 3) := by decide +kernel
theorem dX4_faultInBearer_82 : decode cX4_faultInBearer 82 = .ok (.iload_n 3, 1) := by decide +kernel
theorem dX4_faultInBearer_83 : decode cX4_faultInBearer 83 = .ok (.iastore, 1) := by decide +kernel
theorem dX4_faultInBearer_84 : decode cX4_faultInBearer 84 = .ok (.aload_n 0, 1) := by decide +kernel
theorem dX4_faultInBearer_85 : decode cX4_faultInBearer 85 = .ok (.getfield 15, 3) := by decide +kernel
theorem dX4_faultInBearer_88 : decode cX4_faultInBearer 88 = .ok (.aload_n 0, 1) := by decide +kernel
theorem dX4_faultInBearer_89 : decode cX4_faultInBearer 89 = .ok (.getfield 24, 3) := by decide +kernel
theorem dX4_faultInBearer_92 : decode cX4_faultInBearer 92 = .ok (.bipush 10, 2) := by decide +kernel
theorem dX4_faultInBearer_94 : decode cX4_faultInBearer 94 = .ok (.iload 4, 2) := by decide +kernel
theorem dX4_faultInBearer_96 : decode cX4_faultInBearer 96 = .ok (.imul, 1) := by decide +kernel
theorem dX4_faultInBearer_97 : decode cX4_faultInBearer 97 = .ok (.iload 5, 2) := by decide +kernel
theorem dX4_faultInBearer_99 : decode cX4_faultInBearer 99 = .ok (.iadd, 1) := by decide +kernel
theorem dX4_faultInBearer_100 : decode cX4_faultInBearer 100 = .ok (.iastore, 1) := by decide +kernel
theorem dX4_faultInBearer_101 : decode cX4_faultInBearer 101 = .ok (.aload_n 0, 1) := by decide +kernel
theorem dX4_faultInBearer_102 : decode cX4_faultInBearer 102 = .ok (.dup, 1) := by decide +kernel
theorem dX4_faultInBearer_103 : decode cX4_faultInBearer 103 = .ok (.getfield 24, 3) := by decide +kernel
theorem dX4_faultInBearer_106 : decode cX4_faultInBearer 106 = .ok (.iconst 1, 1) := by decide +kernel
theorem dX4_faultInBearer_107 : decode cX4_faultInBearer 107 = .ok (.iadd, 1) := by decide +kernel
theorem dX4_faultInBearer_108 : decode cX4_faultInBearer 108 = .ok (.putfield 24, 3) := by decide +kernel
theorem dX4_faultInBearer_111 : decode cX4_faultInBearer 111 = .ok (.bipush (-9), 2) := by decide +kernel
theorem dX4_faultInBearer_113 : decode cX4_faultInBearer 113 = .ok (.ireturn, 1) := by decide +kernel
theorem dX4_faultInBearer_70 : decode cX4_faultInBearer 70 = .ok (.iload_n 2, 1) := by decide +kernel
theorem dX4_faultInBearer_71 : decode cX4_faultInBearer 71 = .ok (.iconst 2, 1) := by decide +kernel
theorem dX4_faultInBearer_72 : decode cX4_faultInBearer 72 = .ok (.iadd, 1) := by decide +kernel
theorem dX4_faultInBearer_73 : decode cX4_faultInBearer 73 = .ok (.ireturn, 1) := by decide +kernel
theorem dX4_faultInBearer_50 : decode cX4_faultInBearer 50 = .ok (.iload_n 2, 1) := by decide +kernel
theorem dX4_faultInBearer_51 : decode cX4_faultInBearer 51 = .ok (.iconst 1, 1) := by decide +kernel
theorem dX4_faultInBearer_52 : decode cX4_faultInBearer 52 = .ok (.iadd, 1) := by decide +kernel
theorem dX4_faultInBearer_53 : decode cX4_faultInBearer 53 = .ok (.ireturn, 1) := by decide +kernel
theorem dX4_faultInPath_0 : decode cX4_faultInPath 0 = .ok (.aload_n 0, 1) := by decide +kernel
theorem dX4_faultInPath_1 : decode cX4_faultInPath 1 = .ok (.getfield 28, 3) := by decide +kernel
theorem dX4_faultInPath_4 : decode cX4_faultInPath 4 = .ok (.bipush 12, 2) := by decide +kernel
theorem dX4_faultInPath_6 : decode cX4_faultInPath 6 = .ok (.if_icmp .lt 5, 3) := by decide +kernel
theorem dX4_faultInPath_11 : decode cX4_faultInPath 11 = .ok (.aload_n 1, 1) := by decide +kernel
theorem dX4_faultInPath_12 : decode cX4_faultInPath 12 = .ok (.iload_n 2, 1) := by decide +kernel
theorem dX4_faultInPath_13 : decode cX4_faultInPath 13 = .ok (.iconst 1, 1) := by decide +kernel
theorem dX4_faultInPath_14 : decode cX4_faultInPath 14 = .ok (.iadd, 1) := by decide +kernel
theorem dX4_faultInPath_15 : decode cX4_faultInPath 15 = .ok (.invokevirtual 51, 3) := by decide +kernel
theorem dX4_faultInPath_18 : decode cX4_faultInPath 18 = .ok (.istore_n 3, 1) := by decide +kernel
theorem dX4_faultInPath_19 : decode cX4_faultInPath 19 = .ok (.iload_n 3, 1) := by decide +kernel
theorem dX4_faultInPath_20 : decode cX4_faultInPath 20 = .ok (.bipush (-9), 2) := by decide +kernel
theorem dX4_faultInPath_22 : decode cX4_faultInPath 22 = .ok (.if_icmp .eq 11, 3) := by decide +kernel
theorem dX4_faultInPath_33 : decode cX4_faultInPath 33 = .ok (.iload_n 2, 1) := by decide +kernel
theorem dX4_faultInPath_34 : decode cX4_faultInPath 34 = .ok (.iconst 1, 1) := by decide +kernel
theorem dX4_faultInPath_35 : decode cX4_faultInPath 35 = .ok (.iadd, 1) := by decide +kernel
theorem dX4_faultInPath_36 : decode cX4_faultInPath 36 = .ok (.ireturn, 1) := by decide +kernel
theorem dX4_faultInPath_25 : decode cX4_faultInPath 25 = .ok (.iload_n 3, 1) := by decide +kernel
theorem dX4_faultInPath_26 : decode cX4_faultInPath 26 = .ok (.aload_n 0, 1) := by decide +kernel
theorem dX4_faultInPath_27 : decode cX4_faultInPath 27 = .ok (.getfield 24, 3) := by decide +kernel
theorem dX4_faultInPath_30 : decode cX4_faultInPath 30 = .ok (.if_icmp .lt 7, 3) := by decide +kernel
theorem dX4_faultInPath_37 : decode cX4_faultInPath 37 = .ok (.aload_n 1, 1) := by decide +kernel
theorem dX4_faultInPath_38 : decode cX4_faultInPath 38 = .ok (.iload_n 2, 1) := by decide +kernel
theorem dX4_faultInPath_39 : decode cX4_faultInPath 39 = .ok (.iconst 2, 1) := by decide +kernel
theorem dX4_faultInPath_40 : decode cX4_faultInPath 40 = .ok (.iadd, 1) := by decide +kernel
theorem dX4_faultInPath_41 : decode cX4_faultInPath 41 = .ok (.invokevirtual 51, 3) := by decide +kernel
theorem dX4_faultInPath_44 : decode cX4_faultInPath 44 = .ok (.istore 4, 2) := by decide +kernel
theorem dX4_faultInPath_46 : decode cX4_faultInPath 46 = .ok (.iload 4, 2) := by decide +kernel
theorem dX4_faultInPath_48 : decode cX4_faultInPath 48 = .ok (.bipush (-9), 2) := by decide +kernel
theorem dX4_faultInPath_50 : decode cX4_faultInPath 50 = .ok (.if_icmp .eq 18, 3) := by decide +kernel
theorem dX4_faultInPath_68 : decode cX4_faultInPath 68 = .ok (.iload_n 2, 1) := by decide +kernel
theorem dX4_faultInPath_69 : decode cX4_faultInPath 69 = .ok (.iconst 2, 1) := by decide +kernel
theorem dX4_faultInPath_70 : decode cX4_faultInPath 70 = .ok (.iadd, 1) := by decide +kernel
theorem dX4_faultInPath_71 : decode cX4_faultInPath 71 = .ok (.ireturn, 1) := by decide +kernel
theorem dX4_faultInPath_53 : decode cX4_faultInPath 53 = .ok (.iload 4, 2) := by decide +kernel
theorem dX4_faultInPath_55 : decode cX4_faultInPath 55 = .ok (.aload_n 0, 1) := by decide +kernel
theorem dX4_faultInPath_56 : decode cX4_faultInPath 56 = .ok (.getfield 24, 3) := by decide +kernel
theorem dX4_faultInPath_59 : decode cX4_faultInPath 59 = .ok (.if_icmp .ge 9, 3) := by decide +kernel
theorem dX4_faultInPath_62 : decode cX4_faultInPath 62 = .ok (.iload 4, 2) := by decide +kernel
theorem dX4_faultInPath_64 : decode cX4_faultInPath 64 = .ok (.iload_n 3, 1) := by decide +kernel
theorem dX4_faultInPath_65 : decode cX4_faultInPath 65 = .ok (.if_icmp .ne 7, 3) := by decide +kernel
theorem dX4_faultInPath_72 : decode cX4_faultInPath 72 = .ok (.aload_n 0, 1) := by decide +kernel
theorem dX4_faultInPath_73 : decode cX4_faultInPath 73 = .ok (.getfield 18, 3) := by decide +kernel
theorem dX4_faultInPath_76 : decode cX4_faultInPath 76 = .ok (.aload_n 0, 1) := by decide +kernel
theorem dX4_faultInPath_77 : decode cX4_faultInPath 77 = .ok (.getfield 28, 3) := by decide +kernel
theorem dX4_faultInPath_80 : decode cX4_faultInPath 80 = .ok (.iload_n 3, 1) := by decide +kernel
theorem dX4_faultInPath_81 : decode cX4_faultInPath 81 = .ok (.iastore, 1) := by decide +kernel
theorem dX4_faultInPath_82 : decode cX4_faultInPath 82 = .ok (.aload_n 0, 1) := by decide +kernel
theorem dX4_faultInPath_83 : decode cX4_faultInPath 83 = .ok (.getfield 21, 3) := by decide +kernel
theorem dX4_faultInPath_86 : decode cX4_faultInPath 86 = .ok (.aload_n 0, 1) := by decide +kernel
theorem dX4_faultInPath_87 : decode cX4_faultInPath 87 = .ok (.getfield 28, 3) := by decide +kernel
theorem dX4_faultInPath_90 : decode cX4_faultInPath 90 = .ok (.iload 4, 2) := by decide +kernel
theorem dX4_faultInPath_92 : decode cX4_faultInPath 92 = .ok (.iastore, 1) := by decide +kernel
theorem dX4_faultInPath_93 : decode cX4_faultInPath 93 = .ok (.aload_n 0, 1) := by decide +kernel
theorem dX4_faultInPath_94 : decode cX4_faultInPath 94 = .ok (.dup, 1) := by decide +kernel
theorem dX4_faultInPath_95 : decode cX4_faultInPath 95 = .ok (.getfield 28, 3) := by decide +kernel
theorem dX4_faultInPath_98 : decode cX4_faultInPath 98 = .ok (.iconst 1, 1) := by decide +kernel
theorem dX4_faultInPath_99 : decode cX4_faultInPath 99 = .ok (.iadd, 1) := by decide +kernel
theorem dX4_faultInPath_100 : decode cX4_faultInPath 100 = .ok (.putfield 28, 3) := by decide +kernel
theorem dX4_faultInPath_103 : decode cX4_faultInPath 103 = .ok (.bipush (-9), 2) := by decide +kernel
theorem dX4_faultInPath_105 : decode cX4_faultInPath 105 = .ok (.ireturn, 1) := by decide +kernel
theorem dX4_faultInPath_9 : decode cX4_faultInPath 9 = .ok (.iload_n 2, 1) := by decide +kernel
theorem dX4_faultInPath_10 : decode cX4_faultInPath 10 = .ok (.ireturn, 1) := by decide +kernel
theorem dX4_faultIn_0 : decode cX4_faultIn 0 = .ok (.aload_n 0, 1) := by decide +kernel
theorem dX4_faultIn_1 : decode cX4_faultIn 1 = .ok (.iconst 0, 1) := by decide +kernel
theorem dX4_faultIn_2 : decode cX4_faultIn 2 = .ok (.putfield 24, 3) := by decide +kernel
theorem dX4_faultIn_5 : decode cX4_faultIn 5 = .ok (.aload_n 0, 1) := by decide +kernel
theorem dX4_faultIn_6 : decode cX4_faultIn 6 = .ok (.iconst 0, 1) := by decide +kernel
theorem dX4_faultIn_7 : decode cX4_faultIn 7 = .ok (.putfield 28, 3) := by decide +kernel
theorem dX4_faultIn_10 : decode cX4_faultIn 10 = .ok (.iconst 0, 1) := by decide +kernel
theorem dX4_faultIn_11 : decode cX4_faultIn 11 = .ok (.istore_n 2, 1) := by decide +kernel
theorem dX4_faultIn_12 : decode cX4_faultIn 12 = .ok (.iload_n 2, 1) := by decide +kernel
theorem dX4_faultIn_13 : decode cX4_faultIn 13 = .ok (.aload_n 1, 1) := by decide +kernel
theorem dX4_faultIn_14 : decode cX4_faultIn 14 = .ok (.getfield 31, 3) := by decide +kernel
theorem dX4_faultIn_17 : decode cX4_faultIn 17 = .ok (.if_icmp .ge 61, 3) := by decide +kernel
theorem dX4_faultIn_78 : decode cX4_faultIn 78 = .ok (.bipush (-9), 2) := by decide +kernel
theorem dX4_faultIn_80 : decode cX4_faultIn 80 = .ok (.ireturn, 1) := by decide +kernel
theorem dX4_faultIn_20 : decode cX4_faultIn 20 = .ok (.aload_n 1, 1) := by decide +kernel
theorem dX4_faultIn_21 : decode cX4_faultIn 21 = .ok (.getfield 36, 3) := by decide +kernel
theorem dX4_faultIn_24 : decode cX4_faultIn 24 = .ok (.iload_n 2, 1) := by decide +kernel
theorem dX4_faultIn_25 : decode cX4_faultIn 25 = .ok (.baload, 1) := by decide +kernel
theorem dX4_faultIn_26 : decode cX4_faultIn 26 = .ok (.bipush 32, 2) := by decide +kernel
theorem dX4_faultIn_28 : decode cX4_faultIn 28 = .ok (.if_icmp .ne 6, 3) := by decide +kernel
theorem dX4_faultIn_34 : decode cX4_faultIn 34 = .ok (.aload_n 1, 1) := by decide +kernel
theorem dX4_faultIn_35 : decode cX4_faultIn 35 = .ok (.getfield 36, 3) := by decide +kernel
theorem dX4_faultIn_38 : decode cX4_faultIn 38 = .ok (.iload_n 2, 1) := by decide +kernel
theorem dX4_faultIn_39 : decode cX4_faultIn 39 = .ok (.baload, 1) := by decide +kernel
theorem dX4_faultIn_40 : decode cX4_faultIn 40 = .ok (.bipush 119, 2) := by decide +kernel
theorem dX4_faultIn_42 : decode cX4_faultIn 42 = .ok (.if_icmp .ne 12, 3) := by decide +kernel
theorem dX4_faultIn_54 : decode cX4_faultIn 54 = .ok (.aload_n 0, 1) := by decide +kernel
theorem dX4_faultIn_55 : decode cX4_faultIn 55 = .ok (.aload_n 1, 1) := by decide +kernel
theorem dX4_faultIn_56 : decode cX4_faultIn 56 = .ok (.iload_n 2, 1) := by decide +kernel
theorem dX4_faultIn_57 : decode cX4_faultIn 57 = .ok (.invokevirtual 44, 3) := by decide +kernel
theorem dX4_faultIn_60 : decode cX4_faultIn 60 = .ok (.istore_n 3, 1) := by decide +kernel
theorem dX4_faultIn_61 : decode cX4_faultIn 61 = .ok (.iload_n 3, 1) := by decide +kernel
theorem dX4_faultIn_62 : decode cX4_faultIn 62 = .ok (.bipush (-9), 2) := by decide +kernel
theorem dX4_faultIn_64 : decode cX4_faultIn 64 = .ok (.if_icmp .eq 5, 3) := by decide +kernel
theorem dX4_faultIn_69 : decode cX4_faultIn 69 = .ok (.iinc 2 2, 3) := by decide +kernel
theorem dX4_faultIn_72 : decode cX4_faultIn 72 = .ok (.iinc 2 1, 3) := by decide +kernel
theorem dX4_faultIn_75 : decode cX4_faultIn 75 = .ok (.goto (-63), 3) := by decide +kernel
theorem dX4_faultIn_67 : decode cX4_faultIn 67 = .ok (.iload_n 3, 1) := by decide +kernel
theorem dX4_faultIn_68 : decode cX4_faultIn 68 = .ok (.ireturn, 1) := by decide +kernel
theorem dX4_faultIn_45 : decode cX4_faultIn 45 = .ok (.aload_n 0, 1) := by decide +kernel
theorem dX4_faultIn_46 : decode cX4_faultIn 46 = .ok (.aload_n 1, 1) := by decide +kernel
theorem dX4_faultIn_47 : decode cX4_faultIn 47 = .ok (.iload_n 2, 1) := by decide +kernel
theorem dX4_faultIn_48 : decode cX4_faultIn 48 = .ok (.invokevirtual 40, 3) := by decide +kernel
theorem dX4_faultIn_51 : decode cX4_faultIn 51 = .ok (.goto 9, 3) := by decide +kernel
theorem dX4_faultIn_31 : decode cX4_faultIn 31 = .ok (.goto 41, 3) := by decide +kernel
