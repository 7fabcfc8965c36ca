theorem dL_law_27 : decode cL_law 27 = .ok (.aload_n 0, 1) := dc_aload0 (dl_at 0 27 lb_0 rfl)
theorem dL_law_28 : decode cL_law 28 = .ok (.iload_n 3, 1) := dc_iload3 (dl_at 0 28 lb_0 rfl)
theorem dL_law_29 : decode cL_law 29 = .ok (.iaload, 1) := dc_iaload (dl_at 0 29 lb_0 rfl)
theorem dL_law_30 : decode cL_law 30 = .ok (.bipush 63, 2) := by decide +kernel
theorem dL_law_32 : decode cL_law 32 = .ok (.iand, 1) := by decide +kernel
theorem dL_law_33 : decode cL_law 33 = .ok (.tableswitch 1608 0 48 #[211, 244, 287, 320, 343, 406, 429, 462, 505, 528, 551, 584, 617, 650, 683, 716, 739, 792, 825, 848, 871, 904, 927, 950, 973, 996, 1029, 1062, 1085, 1108, 1131, 1154, 1177, 1200, 1243, 1266, 1289, 1332, 1355, 1388, 1421, 1464, 1497, 1510, 1523, 1536, 1559, 1572, 1595], 211) := by decide +kernel
theorem dL_law_18 : decode cL_law 18 = .ok (.iload_n 3, 1) := dc_iload3 (dl_at 0 18 lb_0 rfl)
theorem dL_law_19 : decode cL_law 19 = .ok (.aload_n 0, 1) := dc_aload0 (dl_at 0 19 lb_0 rfl)
theorem dL_law_20 : decode cL_law 20 = .ok (.arraylength, 1) := by decide +kernel
theorem dL_law_21 : decode cL_law 21 = .ok (.bipush 6, 2) := by decide +kernel
theorem dL_law_23 : decode cL_law 23 = .ok (.isub, 1) := by decide +kernel
theorem dL_law_24 : decode cL_law 24 = .ok (.if_icmp .gt 1623, 3) := by decide +kernel
theorem dL_law_1647 : decode cL_law 1647 = .ok (.iconst 1, 1) := dc_iconst1 (dl_at 1632 15 lb_51 rfl)
theorem dL_law_1648 : decode cL_law 1648 = .ok (.ireturn, 1) := by decide +kernel
theorem dL_law_1641 : decode cL_law 1641 = .ok (.iinc 3 6, 3) := by decide +kernel
theorem dL_law_1644 : decode cL_law 1644 = .ok (.goto (-1626), 3) := dc_goto (a := 249) (b := 166) (dl_at 1632 12 lb_51 rfl) (dl_at 1632 13 lb_51 rfl) (dl_at 1632 14 lb_51 rfl) (by decide +kernel)
