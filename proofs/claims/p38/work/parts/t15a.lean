theorem mw_5_65 : (Cond.fieldLink RX12 49 "DearLettersModel" "sales" "[I" : Cond) ∈ lw_good := lg_at 5 65 rfl rfl
theorem mw_6_114 : (Cond.code yX12_askedLetter cX12_askedLetter 2 (some .int) : Cond) ∈ lw_good := lg_at 6 114 rfl rfl
theorem mw_6_111 : (Cond.methodLink RX12 197 yX12_askedLetter : Cond) ∈ lw_good := lg_at 6 111 rfl rfl
theorem mw_6_113 : (Cond.instanceMethod yX12_askedLetter : Cond) ∈ lw_good := lg_at 6 113 rfl rfl
theorem mw_0_46 : (Cond.selects RX12 yX12_askedLetter yX12_askedLetter : Cond) ∈ lw_good := lg_at 0 46 rfl rfl
theorem mw_6_118 : (Cond.code yX12_canSell cX12_canSell 8 (some .int) : Cond) ∈ lw_good := lg_at 6 118 rfl rfl
theorem mw_6_115 : (Cond.methodLink RX12 200 yX12_canSell : Cond) ∈ lw_good := lg_at 6 115 rfl rfl
theorem mw_6_117 : (Cond.instanceMethod yX12_canSell : Cond) ∈ lw_good := lg_at 6 117 rfl rfl
theorem mw_0_47 : (Cond.selects RX12 yX12_canSell yX12_canSell : Cond) ∈ lw_good := lg_at 0 47 rfl rfl
theorem mw_6_130 : (Cond.code yX12_sellTo cX12_sellTo 7 none : Cond) ∈ lw_good := lg_at 6 130 rfl rfl
theorem mw_6_127 : (Cond.methodLink RX12 203 yX12_sellTo : Cond) ∈ lw_good := lg_at 6 127 rfl rfl
theorem mw_6_129 : (Cond.instanceMethod yX12_sellTo : Cond) ∈ lw_good := lg_at 6 129 rfl rfl
theorem mw_0_50 : (Cond.selects RX12 yX12_sellTo yX12_sellTo : Cond) ∈ lw_good := lg_at 0 50 rfl rfl
theorem mw_6_146 : (Cond.code yX12_letterTells cX12_letterTells 3 (some .int) : Cond) ∈ lw_good := lg_at 6 146 rfl rfl
theorem mw_6_143 : (Cond.methodLink RX12 207 yX12_letterTells : Cond) ∈ lw_good := lg_at 6 143 rfl rfl
theorem mw_6_145 : (Cond.instanceMethod yX12_letterTells : Cond) ∈ lw_good := lg_at 6 145 rfl rfl
theorem mw_0_51 : (Cond.selects RX12 yX12_letterTells yX12_letterTells : Cond) ∈ lw_good := lg_at 0 51 rfl rfl
theorem rM_0_17 {mu : Nat → Nat → Int32} (ok : okR loM hiM mu) : 0 ≤ (mu 0 17).toInt ∧ (mu 0 17).toInt ≤ 40 := ok 0 17
theorem tM_14_s {mu : Nat → Nat → Int32} (ok : okR loM hiM mu) {nu : Nat → Nat → Int32} {v : Int32} (f : Nat) (hn : va_up mu 14 (upd (mu 14) f v) = nu) (hv : (f % 12 = 0 → 0 ≤ v.toInt ∧ v.toInt ≤ 3) ∧ (f % 12 = 1 → 0 ≤ v.toInt ∧ v.toInt ≤ 6)) : okR loM hiM nu := by
  subst hn
  exact okR_up ok 14 f v (by
    show (if f % 12 = 0 then 0 else if f % 12 = 1 then 0 else -2147483648) ≤ v.toInt
    have h8 := tI_lo v
    (repeat' split) <;> omega) (by
    show v.toInt ≤ (if f % 12 = 0 then 3 else if f % 12 = 1 then 6 else 2147483647)
    have h8 := tI_hi v
    (repeat' split) <;> omega)
theorem lb_X12_sellTo_0 : dl_ck (cX12_sellTo.data.toList.drop 0) [16, 12, 42, 180, 0, 151, 104, 62, 42, 27, 8, 182, 0, 161, 54, 4, 42, 27, 182, 0, 191, 54, 5, 42, 180, 0, 49, 29, 27, 79, 42, 180] = true := by decide +kernel
theorem lb_X12_sellTo_1 : dl_ck (cX12_sellTo.data.toList.drop 32) [0, 49, 29, 4, 96, 21, 4, 79, 42, 180, 0, 49, 29, 5, 96, 42, 27, 16, 6, 182, 0, 161, 79, 42, 180, 0, 49, 29, 6, 96, 42, 27] = true := by decide +kernel
theorem lb_X12_sellTo_2 : dl_ck (cX12_sellTo.data.toList.drop 64) [16, 8, 182, 0, 161, 79, 42, 180, 0, 49, 29, 7, 96, 21, 5, 79, 3, 54, 6, 21, 6, 16, 7, 162, 0, 27, 42, 180, 0, 49, 29, 8] = true := by decide +kernel
theorem lb_X12_sellTo_3 : dl_ck (cX12_sellTo.data.toList.drop 96) [96, 21, 6, 96, 42, 180, 0, 31, 21, 6, 46, 79, 132, 6, 1, 167, 255, 228, 42, 89, 180, 0, 151, 4, 96, 181, 0, 151, 42, 180, 0, 31] = true := by decide +kernel
theorem lb_X12_sellTo_4 : dl_ck (cX12_sellTo.data.toList.drop 128) [28, 92, 46, 21, 5, 100, 79, 42, 180, 0, 31, 21, 4, 92, 46, 21, 5, 96, 79, 42, 27, 8, 28, 182, 0, 188, 42, 27, 16, 6, 21, 5] = true := by decide +kernel
theorem lb_X12_sellTo_5 : dl_ck (cX12_sellTo.data.toList.drop 160) [182, 0, 188, 42, 27, 16, 7, 42, 27, 16, 7, 182, 0, 161, 4, 96, 182, 0, 188, 42, 27, 16, 8, 42, 180, 0, 145, 182, 0, 188, 42, 27] = true := by decide +kernel
theorem lb_X12_sellTo_6 : dl_ck (cX12_sellTo.data.toList.drop 192) [16, 9, 28, 42, 27, 4, 182, 0, 161, 160, 0, 7, 4, 167, 0, 4, 3, 182, 0, 188, 177] = true := by decide +kernel
theorem dX12_sellTo_0 : decode cX12_sellTo 0 = .ok (.bipush 12, 2) := dx_16 (dl_at 0 0 lb_X12_sellTo_0 rfl) (dl_at 0 1 lb_X12_sellTo_0 rfl) sg8_12
theorem dX12_sellTo_2 : decode cX12_sellTo 2 = .ok (.aload_n 0, 1) := dx_42 (dl_at 0 2 lb_X12_sellTo_0 rfl)
theorem dX12_sellTo_3 : decode cX12_sellTo 3 = .ok (.getfield 151, 3) := dx_180 (a := 0) (b := 151) (dl_at 0 3 lb_X12_sellTo_0 rfl) (dl_at 0 4 lb_X12_sellTo_0 rfl) (dl_at 0 5 lb_X12_sellTo_0 rfl) rfl
theorem dX12_sellTo_6 : decode cX12_sellTo 6 = .ok (.imul, 1) := dx_104 (dl_at 0 6 lb_X12_sellTo_0 rfl)
theorem dX12_sellTo_7 : decode cX12_sellTo 7 = .ok (.istore_n 3, 1) := dx_62 (dl_at 0 7 lb_X12_sellTo_0 rfl)
theorem dX12_sellTo_8 : decode cX12_sellTo 8 = .ok (.aload_n 0, 1) := dx_42 (dl_at 0 8 lb_X12_sellTo_0 rfl)
theorem dX12_sellTo_9 : decode cX12_sellTo 9 = .ok (.iload_n 1, 1) := dx_27 (dl_at 0 9 lb_X12_sellTo_0 rfl)
theorem dX12_sellTo_10 : decode cX12_sellTo 10 = .ok (.iconst 5, 1) := dx_8 (dl_at 0 10 lb_X12_sellTo_0 rfl)
theorem dX12_sellTo_11 : decode cX12_sellTo 11 = .ok (.invokevirtual 161, 3) := dx_182 (a := 0) (b := 161) (dl_at 0 11 lb_X12_sellTo_0 rfl) (dl_at 0 12 lb_X12_sellTo_0 rfl) (dl_at 0 13 lb_X12_sellTo_0 rfl) rfl
theorem dX12_sellTo_14 : decode cX12_sellTo 14 = .ok (.istore 4, 2) := dx_54 (dl_at 0 14 lb_X12_sellTo_0 rfl) (dl_at 0 15 lb_X12_sellTo_0 rfl)
theorem dX12_sellTo_16 : decode cX12_sellTo 16 = .ok (.aload_n 0, 1) := dx_42 (dl_at 0 16 lb_X12_sellTo_0 rfl)
theorem dX12_sellTo_17 : decode cX12_sellTo 17 = .ok (.iload_n 1, 1) := dx_27 (dl_at 0 17 lb_X12_sellTo_0 rfl)
theorem dX12_sellTo_18 : decode cX12_sellTo 18 = .ok (.invokevirtual 191, 3) := dx_182 (a := 0) (b := 191) (dl_at 0 18 lb_X12_sellTo_0 rfl) (dl_at 0 19 lb_X12_sellTo_0 rfl) (dl_at 0 20 lb_X12_sellTo_0 rfl) rfl
theorem dX12_sellTo_21 : decode cX12_sellTo 21 = .ok (.istore 5, 2) := dx_54 (dl_at 0 21 lb_X12_sellTo_0 rfl) (dl_at 0 22 lb_X12_sellTo_0 rfl)
theorem dX12_sellTo_23 : decode cX12_sellTo 23 = .ok (.aload_n 0, 1) := dx_42 (dl_at 0 23 lb_X12_sellTo_0 rfl)
theorem dX12_sellTo_24 : decode cX12_sellTo 24 = .ok (.getfield 49, 3) := dx_180 (a := 0) (b := 49) (dl_at 0 24 lb_X12_sellTo_0 rfl) (dl_at 0 25 lb_X12_sellTo_0 rfl) (dl_at 0 26 lb_X12_sellTo_0 rfl) rfl
theorem dX12_sellTo_27 : decode cX12_sellTo 27 = .ok (.iload_n 3, 1) := dx_29 (dl_at 0 27 lb_X12_sellTo_0 rfl)
theorem dX12_sellTo_28 : decode cX12_sellTo 28 = .ok (.iload_n 1, 1) := dx_27 (dl_at 0 28 lb_X12_sellTo_0 rfl)
theorem dX12_sellTo_29 : decode cX12_sellTo 29 = .ok (.iastore, 1) := dx_79 (dl_at 0 29 lb_X12_sellTo_0 rfl)
theorem dX12_sellTo_30 : decode cX12_sellTo 30 = .ok (.aload_n 0, 1) := dx_42 (dl_at 0 30 lb_X12_sellTo_0 rfl)
theorem dX12_sellTo_31 : decode cX12_sellTo 31 = .ok (.getfield 49, 3) := dx_180 (a := 0) (b := 49) (dl_at 0 31 lb_X12_sellTo_0 rfl) (dl_at 32 0 lb_X12_sellTo_1 rfl) (dl_at 32 1 lb_X12_sellTo_1 rfl) rfl
theorem dX12_sellTo_34 : decode cX12_sellTo 34 = .ok (.iload_n 3, 1) := dx_29 (dl_at 32 2 lb_X12_sellTo_1 rfl)
theorem dX12_sellTo_35 : decode cX12_sellTo 35 = .ok (.iconst 1, 1) := dx_4 (dl_at 32 3 lb_X12_sellTo_1 rfl)
theorem dX12_sellTo_36 : decode cX12_sellTo 36 = .ok (.iadd, 1) := dx_96 (dl_at 32 4 lb_X12_sellTo_1 rfl)
theorem dX12_sellTo_37 : decode cX12_sellTo 37 = .ok (.iload 4, 2) := dx_21 (dl_at 32 5 lb_X12_sellTo_1 rfl) (dl_at 32 6 lb_X12_sellTo_1 rfl)
theorem dX12_sellTo_39 : decode cX12_sellTo 39 = .ok (.iastore, 1) := dx_79 (dl_at 32 7 lb_X12_sellTo_1 rfl)
theorem dX12_sellTo_40 : decode cX12_sellTo 40 = .ok (.aload_n 0, 1) := dx_42 (dl_at 32 8 lb_X12_sellTo_1 rfl)
theorem dX12_sellTo_41 : decode cX12_sellTo 41 = .ok (.getfield 49, 3) := dx_180 (a := 0) (b := 49) (dl_at 32 9 lb_X12_sellTo_1 rfl) (dl_at 32 10 lb_X12_sellTo_1 rfl) (dl_at 32 11 lb_X12_sellTo_1 rfl) rfl
theorem dX12_sellTo_44 : decode cX12_sellTo 44 = .ok (.iload_n 3, 1) := dx_29 (dl_at 32 12 lb_X12_sellTo_1 rfl)
theorem dX12_sellTo_45 : decode cX12_sellTo 45 = .ok (.iconst 2, 1) := dx_5 (dl_at 32 13 lb_X12_sellTo_1 rfl)
theorem dX12_sellTo_46 : decode cX12_sellTo 46 = .ok (.iadd, 1) := dx_96 (dl_at 32 14 lb_X12_sellTo_1 rfl)
theorem dX12_sellTo_47 : decode cX12_sellTo 47 = .ok (.aload_n 0, 1) := dx_42 (dl_at 32 15 lb_X12_sellTo_1 rfl)
theorem dX12_sellTo_48 : decode cX12_sellTo 48 = .ok (.iload_n 1, 1) := dx_27 (dl_at 32 16 lb_X12_sellTo_1 rfl)
theorem dX12_sellTo_49 : decode cX12_sellTo 49 = .ok (.bipush 6, 2) := dx_16 (dl_at 32 17 lb_X12_sellTo_1 rfl) (dl_at 32 18 lb_X12_sellTo_1 rfl) sg8_6
theorem dX12_sellTo_51 : decode cX12_sellTo 51 = .ok (.invokevirtual 161, 3) := dx_182 (a := 0) (b := 161) (dl_at 32 19 lb_X12_sellTo_1 rfl) (dl_at 32 20 lb_X12_sellTo_1 rfl) (dl_at 32 21 lb_X12_sellTo_1 rfl) rfl
theorem dX12_sellTo_54 : decode cX12_sellTo 54 = .ok (.iastore, 1) := dx_79 (dl_at 32 22 lb_X12_sellTo_1 rfl)
theorem dX12_sellTo_55 : decode cX12_sellTo 55 = .ok (.aload_n 0, 1) := dx_42 (dl_at 32 23 lb_X12_sellTo_1 rfl)
theorem dX12_sellTo_56 : decode cX12_sellTo 56 = .ok (.getfield 49, 3) := dx_180 (a := 0) (b := 49) (dl_at 32 24 lb_X12_sellTo_1 rfl) (dl_at 32 25 lb_X12_sellTo_1 rfl) (dl_at 32 26 lb_X12_sellTo_1 rfl) rfl
theorem dX12_sellTo_59 : decode cX12_sellTo 59 = .ok (.iload_n 3, 1) := dx_29 (dl_at 32 27 lb_X12_sellTo_1 rfl)
theorem dX12_sellTo_60 : decode cX12_sellTo 60 = .ok (.iconst 3, 1) := dx_6 (dl_at 32 28 lb_X12_sellTo_1 rfl)
theorem dX12_sellTo_61 : decode cX12_sellTo 61 = .ok (.iadd, 1) := dx_96 (dl_at 32 29 lb_X12_sellTo_1 rfl)
theorem dX12_sellTo_62 : decode cX12_sellTo 62 = .ok (.aload_n 0, 1) := dx_42 (dl_at 32 30 lb_X12_sellTo_1 rfl)
theorem dX12_sellTo_63 : decode cX12_sellTo 63 = .ok (.iload_n 1, 1) := dx_27 (dl_at 32 31 lb_X12_sellTo_1 rfl)
theorem dX12_sellTo_64 : decode cX12_sellTo 64 = .ok (.bipush 8, 2) := dx_16 (dl_at 64 0 lb_X12_sellTo_2 rfl) (dl_at 64 1 lb_X12_sellTo_2 rfl) sg8_8
theorem dX12_sellTo_66 : decode cX12_sellTo 66 = .ok (.invokevirtual 161, 3) := dx_182 (a := 0) (b := 161) (dl_at 64 2 lb_X12_sellTo_2 rfl) (dl_at 64 3 lb_X12_sellTo_2 rfl) (dl_at 64 4 lb_X12_sellTo_2 rfl) rfl
theorem dX12_sellTo_69 : decode cX12_sellTo 69 = .ok (.iastore, 1) := dx_79 (dl_at 64 5 lb_X12_sellTo_2 rfl)
theorem dX12_sellTo_70 : decode cX12_sellTo 70 = .ok (.aload_n 0, 1) := dx_42 (dl_at 64 6 lb_X12_sellTo_2 rfl)
theorem dX12_sellTo_71 : decode cX12_sellTo 71 = .ok (.getfield 49, 3) := dx_180 (a := 0) (b := 49) (dl_at 64 7 lb_X12_sellTo_2 rfl) (dl_at 64 8 lb_X12_sellTo_2 rfl) (dl_at 64 9 lb_X12_sellTo_2 rfl) rfl
theorem dX12_sellTo_74 : decode cX12_sellTo 74 = .ok (.iload_n 3, 1) := dx_29 (dl_at 64 10 lb_X12_sellTo_2 rfl)
theorem dX12_sellTo_75 : decode cX12_sellTo 75 = .ok (.iconst 4, 1) := dx_7 (dl_at 64 11 lb_X12_sellTo_2 rfl)
theorem dX12_sellTo_76 : decode cX12_sellTo 76 = .ok (.iadd, 1) := dx_96 (dl_at 64 12 lb_X12_sellTo_2 rfl)
theorem dX12_sellTo_77 : decode cX12_sellTo 77 = .ok (.iload 5, 2) := dx_21 (dl_at 64 13 lb_X12_sellTo_2 rfl) (dl_at 64 14 lb_X12_sellTo_2 rfl)
theorem dX12_sellTo_79 : decode cX12_sellTo 79 = .ok (.iastore, 1) := dx_79 (dl_at 64 15 lb_X12_sellTo_2 rfl)
theorem dX12_sellTo_80 : decode cX12_sellTo 80 = .ok (.iconst 0, 1) := dx_3 (dl_at 64 16 lb_X12_sellTo_2 rfl)
theorem dX12_sellTo_81 : decode cX12_sellTo 81 = .ok (.istore 6, 2) := dx_54 (dl_at 64 17 lb_X12_sellTo_2 rfl) (dl_at 64 18 lb_X12_sellTo_2 rfl)
theorem dX12_sellTo_83 : decode cX12_sellTo 83 = .ok (.iload 6, 2) := dx_21 (dl_at 64 19 lb_X12_sellTo_2 rfl) (dl_at 64 20 lb_X12_sellTo_2 rfl)
theorem dX12_sellTo_85 : decode cX12_sellTo 85 = .ok (.bipush 7, 2) := dx_16 (dl_at 64 21 lb_X12_sellTo_2 rfl) (dl_at 64 22 lb_X12_sellTo_2 rfl) sg8_7
theorem dX12_sellTo_87 : decode cX12_sellTo 87 = .ok (.if_icmp .ge 27, 3) := dx_162 (a := 0) (b := 27) (dl_at 64 23 lb_X12_sellTo_2 rfl) (dl_at 64 24 lb_X12_sellTo_2 rfl) (dl_at 64 25 lb_X12_sellTo_2 rfl) sg16_27
theorem dX12_sellTo_114 : decode cX12_sellTo 114 = .ok (.aload_n 0, 1) := dx_42 (dl_at 96 18 lb_X12_sellTo_3 rfl)
theorem dX12_sellTo_115 : decode cX12_sellTo 115 = .ok (.dup, 1) := dx_89 (dl_at 96 19 lb_X12_sellTo_3 rfl)
theorem dX12_sellTo_116 : decode cX12_sellTo 116 = .ok (.getfield 151, 3) := dx_180 (a := 0) (b := 151) (dl_at 96 20 lb_X12_sellTo_3 rfl) (dl_at 96 21 lb_X12_sellTo_3 rfl) (dl_at 96 22 lb_X12_sellTo_3 rfl) rfl
theorem dX12_sellTo_119 : decode cX12_sellTo 119 = .ok (.iconst 1, 1) := dx_4 (dl_at 96 23 lb_X12_sellTo_3 rfl)
theorem dX12_sellTo_120 : decode cX12_sellTo 120 = .ok (.iadd, 1) := dx_96 (dl_at 96 24 lb_X12_sellTo_3 rfl)
theorem dX12_sellTo_121 : decode cX12_sellTo 121 = .ok (.putfield 151, 3) := dx_181 (a := 0) (b := 151) (dl_at 96 25 lb_X12_sellTo_3 rfl) (dl_at 96 26 lb_X12_sellTo_3 rfl) (dl_at 96 27 lb_X12_sellTo_3 rfl) rfl
theorem dX12_sellTo_124 : decode cX12_sellTo 124 = .ok (.aload_n 0, 1) := dx_42 (dl_at 96 28 lb_X12_sellTo_3 rfl)
theorem dX12_sellTo_125 : decode cX12_sellTo 125 = .ok (.getfield 31, 3) := dx_180 (a := 0) (b := 31) (dl_at 96 29 lb_X12_sellTo_3 rfl) (dl_at 96 30 lb_X12_sellTo_3 rfl) (dl_at 96 31 lb_X12_sellTo_3 rfl) rfl
theorem dX12_sellTo_128 : decode cX12_sellTo 128 = .ok (.iload_n 2, 1) := dx_28 (dl_at 128 0 lb_X12_sellTo_4 rfl)
theorem dX12_sellTo_129 : decode cX12_sellTo 129 = .ok (.dup2, 1) := dx_92 (dl_at 128 1 lb_X12_sellTo_4 rfl)
theorem dX12_sellTo_130 : decode cX12_sellTo 130 = .ok (.iaload, 1) := dx_46 (dl_at 128 2 lb_X12_sellTo_4 rfl)
theorem dX12_sellTo_131 : decode cX12_sellTo 131 = .ok (.iload 5, 2) := dx_21 (dl_at 128 3 lb_X12_sellTo_4 rfl) (dl_at 128 4 lb_X12_sellTo_4 rfl)
theorem dX12_sellTo_133 : decode cX12_sellTo 133 = .ok (.isub, 1) := dx_100 (dl_at 128 5 lb_X12_sellTo_4 rfl)
theorem dX12_sellTo_134 : decode cX12_sellTo 134 = .ok (.iastore, 1) := dx_79 (dl_at 128 6 lb_X12_sellTo_4 rfl)
theorem dX12_sellTo_135 : decode cX12_sellTo 135 = .ok (.aload_n 0, 1) := dx_42 (dl_at 128 7 lb_X12_sellTo_4 rfl)
theorem dX12_sellTo_136 : decode cX12_sellTo 136 = .ok (.getfield 31, 3) := dx_180 (a := 0) (b := 31) (dl_at 128 8 lb_X12_sellTo_4 rfl) (dl_at 128 9 lb_X12_sellTo_4 rfl) (dl_at 128 10 lb_X12_sellTo_4 rfl) rfl
theorem dX12_sellTo_139 : decode cX12_sellTo 139 = .ok (.iload 4, 2) := dx_21 (dl_at 128 11 lb_X12_sellTo_4 rfl) (dl_at 128 12 lb_X12_sellTo_4 rfl)
theorem dX12_sellTo_141 : decode cX12_sellTo 141 = .ok (.dup2, 1) := dx_92 (dl_at 128 13 lb_X12_sellTo_4 rfl)
theorem dX12_sellTo_142 : decode cX12_sellTo 142 = .ok (.iaload, 1) := dx_46 (dl_at 128 14 lb_X12_sellTo_4 rfl)
theorem dX12_sellTo_143 : decode cX12_sellTo 143 = .ok (.iload 5, 2) := dx_21 (dl_at 128 15 lb_X12_sellTo_4 rfl) (dl_at 128 16 lb_X12_sellTo_4 rfl)
theorem dX12_sellTo_145 : decode cX12_sellTo 145 = .ok (.iadd, 1) := dx_96 (dl_at 128 17 lb_X12_sellTo_4 rfl)
theorem dX12_sellTo_146 : decode cX12_sellTo 146 = .ok (.iastore, 1) := dx_79 (dl_at 128 18 lb_X12_sellTo_4 rfl)
theorem dX12_sellTo_147 : decode cX12_sellTo 147 = .ok (.aload_n 0, 1) := dx_42 (dl_at 128 19 lb_X12_sellTo_4 rfl)
theorem dX12_sellTo_148 : decode cX12_sellTo 148 = .ok (.iload_n 1, 1) := dx_27 (dl_at 128 20 lb_X12_sellTo_4 rfl)
theorem dX12_sellTo_149 : decode cX12_sellTo 149 = .ok (.iconst 5, 1) := dx_8 (dl_at 128 21 lb_X12_sellTo_4 rfl)
theorem dX12_sellTo_150 : decode cX12_sellTo 150 = .ok (.iload_n 2, 1) := dx_28 (dl_at 128 22 lb_X12_sellTo_4 rfl)
theorem dX12_sellTo_151 : decode cX12_sellTo 151 = .ok (.invokevirtual 188, 3) := dx_182 (a := 0) (b := 188) (dl_at 128 23 lb_X12_sellTo_4 rfl) (dl_at 128 24 lb_X12_sellTo_4 rfl) (dl_at 128 25 lb_X12_sellTo_4 rfl) rfl
theorem dX12_sellTo_154 : decode cX12_sellTo 154 = .ok (.aload_n 0, 1) := dx_42 (dl_at 128 26 lb_X12_sellTo_4 rfl)
theorem dX12_sellTo_155 : decode cX12_sellTo 155 = .ok (.iload_n 1, 1) := dx_27 (dl_at 128 27 lb_X12_sellTo_4 rfl)
theorem dX12_sellTo_156 : decode cX12_sellTo 156 = .ok (.bipush 6, 2) := dx_16 (dl_at 128 28 lb_X12_sellTo_4 rfl) (dl_at 128 29 lb_X12_sellTo_4 rfl) sg8_6
theorem dX12_sellTo_158 : decode cX12_sellTo 158 = .ok (.iload 5, 2) := dx_21 (dl_at 128 30 lb_X12_sellTo_4 rfl) (dl_at 128 31 lb_X12_sellTo_4 rfl)
theorem dX12_sellTo_160 : decode cX12_sellTo 160 = .ok (.invokevirtual 188, 3) := dx_182 (a := 0) (b := 188) (dl_at 160 0 lb_X12_sellTo_5 rfl) (dl_at 160 1 lb_X12_sellTo_5 rfl) (dl_at 160 2 lb_X12_sellTo_5 rfl) rfl
theorem dX12_sellTo_163 : decode cX12_sellTo 163 = .ok (.aload_n 0, 1) := dx_42 (dl_at 160 3 lb_X12_sellTo_5 rfl)
theorem dX12_sellTo_164 : decode cX12_sellTo 164 = .ok (.iload_n 1, 1) := dx_27 (dl_at 160 4 lb_X12_sellTo_5 rfl)
theorem dX12_sellTo_165 : decode cX12_sellTo 165 = .ok (.bipush 7, 2) := dx_16 (dl_at 160 5 lb_X12_sellTo_5 rfl) (dl_at 160 6 lb_X12_sellTo_5 rfl) sg8_7
theorem dX12_sellTo_167 : decode cX12_sellTo 167 = .ok (.aload_n 0, 1) := dx_42 (dl_at 160 7 lb_X12_sellTo_5 rfl)
theorem dX12_sellTo_168 : decode cX12_sellTo 168 = .ok (.iload_n 1, 1) := dx_27 (dl_at 160 8 lb_X12_sellTo_5 rfl)
theorem dX12_sellTo_169 : decode cX12_sellTo 169 = .ok (.bipush 7, 2) := dx_16 (dl_at 160 9 lb_X12_sellTo_5 rfl) (dl_at 160 10 lb_X12_sellTo_5 rfl) sg8_7
theorem dX12_sellTo_171 : decode cX12_sellTo 171 = .ok (.invokevirtual 161, 3) := dx_182 (a := 0) (b := 161) (dl_at 160 11 lb_X12_sellTo_5 rfl) (dl_at 160 12 lb_X12_sellTo_5 rfl) (dl_at 160 13 lb_X12_sellTo_5 rfl) rfl
theorem dX12_sellTo_174 : decode cX12_sellTo 174 = .ok (.iconst 1, 1) := dx_4 (dl_at 160 14 lb_X12_sellTo_5 rfl)
theorem dX12_sellTo_175 : decode cX12_sellTo 175 = .ok (.iadd, 1) := dx_96 (dl_at 160 15 lb_X12_sellTo_5 rfl)
theorem dX12_sellTo_176 : decode cX12_sellTo 176 = .ok (.invokevirtual 188, 3) := dx_182 (a := 0) (b := 188) (dl_at 160 16 lb_X12_sellTo_5 rfl) (dl_at 160 17 lb_X12_sellTo_5 rfl) (dl_at 160 18 lb_X12_sellTo_5 rfl) rfl
theorem dX12_sellTo_179 : decode cX12_sellTo 179 = .ok (.aload_n 0, 1) := dx_42 (dl_at 160 19 lb_X12_sellTo_5 rfl)
theorem dX12_sellTo_180 : decode cX12_sellTo 180 = .ok (.iload_n 1, 1) := dx_27 (dl_at 160 20 lb_X12_sellTo_5 rfl)
theorem dX12_sellTo_181 : decode cX12_sellTo 181 = .ok (.bipush 8, 2) := dx_16 (dl_at 160 21 lb_X12_sellTo_5 rfl) (dl_at 160 22 lb_X12_sellTo_5 rfl) sg8_8
theorem dX12_sellTo_183 : decode cX12_sellTo 183 = .ok (.aload_n 0, 1) := dx_42 (dl_at 160 23 lb_X12_sellTo_5 rfl)
theorem dX12_sellTo_184 : decode cX12_sellTo 184 = .ok (.getfield 145, 3) := dx_180 (a := 0) (b := 145) (dl_at 160 24 lb_X12_sellTo_5 rfl) (dl_at 160 25 lb_X12_sellTo_5 rfl) (dl_at 160 26 lb_X12_sellTo_5 rfl) rfl
theorem dX12_sellTo_187 : decode cX12_sellTo 187 = .ok (.invokevirtual 188, 3) := dx_182 (a := 0) (b := 188) (dl_at 160 27 lb_X12_sellTo_5 rfl) (dl_at 160 28 lb_X12_sellTo_5 rfl) (dl_at 160 29 lb_X12_sellTo_5 rfl) rfl
theorem dX12_sellTo_190 : decode cX12_sellTo 190 = .ok (.aload_n 0, 1) := dx_42 (dl_at 160 30 lb_X12_sellTo_5 rfl)
theorem dX12_sellTo_191 : decode cX12_sellTo 191 = .ok (.iload_n 1, 1) := dx_27 (dl_at 160 31 lb_X12_sellTo_5 rfl)
theorem dX12_sellTo_192 : decode cX12_sellTo 192 = .ok (.bipush 9, 2) := dx_16 (dl_at 192 0 lb_X12_sellTo_6 rfl) (dl_at 192 1 lb_X12_sellTo_6 rfl) sg8_9
theorem dX12_sellTo_194 : decode cX12_sellTo 194 = .ok (.iload_n 2, 1) := dx_28 (dl_at 192 2 lb_X12_sellTo_6 rfl)
theorem dX12_sellTo_195 : decode cX12_sellTo 195 = .ok (.aload_n 0, 1) := dx_42 (dl_at 192 3 lb_X12_sellTo_6 rfl)
theorem dX12_sellTo_196 : decode cX12_sellTo 196 = .ok (.iload_n 1, 1) := dx_27 (dl_at 192 4 lb_X12_sellTo_6 rfl)
theorem dX12_sellTo_197 : decode cX12_sellTo 197 = .ok (.iconst 1, 1) := dx_4 (dl_at 192 5 lb_X12_sellTo_6 rfl)
theorem dX12_sellTo_198 : decode cX12_sellTo 198 = .ok (.invokevirtual 161, 3) := dx_182 (a := 0) (b := 161) (dl_at 192 6 lb_X12_sellTo_6 rfl) (dl_at 192 7 lb_X12_sellTo_6 rfl) (dl_at 192 8 lb_X12_sellTo_6 rfl) rfl
theorem dX12_sellTo_201 : decode cX12_sellTo 201 = .ok (.if_icmp .ne 7, 3) := dx_160 (a := 0) (b := 7) (dl_at 192 9 lb_X12_sellTo_6 rfl) (dl_at 192 10 lb_X12_sellTo_6 rfl) (dl_at 192 11 lb_X12_sellTo_6 rfl) sg16_7
theorem dX12_sellTo_208 : decode cX12_sellTo 208 = .ok (.iconst 0, 1) := dx_3 (dl_at 192 16 lb_X12_sellTo_6 rfl)
theorem dX12_sellTo_209 : decode cX12_sellTo 209 = .ok (.invokevirtual 188, 3) := dx_182 (a := 0) (b := 188) (dl_at 192 17 lb_X12_sellTo_6 rfl) (dl_at 192 18 lb_X12_sellTo_6 rfl) (dl_at 192 19 lb_X12_sellTo_6 rfl) rfl
theorem dX12_sellTo_212 : decode cX12_sellTo 212 = .ok (.return_, 1) := dx_177 (dl_at 192 20 lb_X12_sellTo_6 rfl)
theorem dX12_sellTo_204 : decode cX12_sellTo 204 = .ok (.iconst 1, 1) := dx_4 (dl_at 192 12 lb_X12_sellTo_6 rfl)
theorem dX12_sellTo_205 : decode cX12_sellTo 205 = .ok (.goto 4, 3) := dx_167 (a := 0) (b := 4) (dl_at 192 13 lb_X12_sellTo_6 rfl) (dl_at 192 14 lb_X12_sellTo_6 rfl) (dl_at 192 15 lb_X12_sellTo_6 rfl) sg16_4
theorem dX12_sellTo_90 : decode cX12_sellTo 90 = .ok (.aload_n 0, 1) := dx_42 (dl_at 64 26 lb_X12_sellTo_2 rfl)
theorem dX12_sellTo_91 : decode cX12_sellTo 91 = .ok (.getfield 49, 3) := dx_180 (a := 0) (b := 49) (dl_at 64 27 lb_X12_sellTo_2 rfl) (dl_at 64 28 lb_X12_sellTo_2 rfl) (dl_at 64 29 lb_X12_sellTo_2 rfl) rfl
theorem dX12_sellTo_94 : decode cX12_sellTo 94 = .ok (.iload_n 3, 1) := dx_29 (dl_at 64 30 lb_X12_sellTo_2 rfl)
theorem dX12_sellTo_95 : decode cX12_sellTo 95 = .ok (.iconst 5, 1) := dx_8 (dl_at 64 31 lb_X12_sellTo_2 rfl)
theorem dX12_sellTo_96 : decode cX12_sellTo 96 = .ok (.iadd, 1) := dx_96 (dl_at 96 0 lb_X12_sellTo_3 rfl)
theorem dX12_sellTo_97 : decode cX12_sellTo 97 = .ok (.iload 6, 2) := dx_21 (dl_at 96 1 lb_X12_sellTo_3 rfl) (dl_at 96 2 lb_X12_sellTo_3 rfl)
theorem dX12_sellTo_99 : decode cX12_sellTo 99 = .ok (.iadd, 1) := dx_96 (dl_at 96 3 lb_X12_sellTo_3 rfl)
theorem dX12_sellTo_100 : decode cX12_sellTo 100 = .ok (.aload_n 0, 1) := dx_42 (dl_at 96 4 lb_X12_sellTo_3 rfl)
theorem dX12_sellTo_101 : decode cX12_sellTo 101 = .ok (.getfield 31, 3) := dx_180 (a := 0) (b := 31) (dl_at 96 5 lb_X12_sellTo_3 rfl) (dl_at 96 6 lb_X12_sellTo_3 rfl) (dl_at 96 7 lb_X12_sellTo_3 rfl) rfl
theorem dX12_sellTo_104 : decode cX12_sellTo 104 = .ok (.iload 6, 2) := dx_21 (dl_at 96 8 lb_X12_sellTo_3 rfl) (dl_at 96 9 lb_X12_sellTo_3 rfl)
theorem dX12_sellTo_106 : decode cX12_sellTo 106 = .ok (.iaload, 1) := dx_46 (dl_at 96 10 lb_X12_sellTo_3 rfl)
theorem dX12_sellTo_107 : decode cX12_sellTo 107 = .ok (.iastore, 1) := dx_79 (dl_at 96 11 lb_X12_sellTo_3 rfl)
theorem dX12_sellTo_108 : decode cX12_sellTo 108 = .ok (.iinc 6 1, 3) := dx_132 (dl_at 96 12 lb_X12_sellTo_3 rfl) (dl_at 96 13 lb_X12_sellTo_3 rfl) (dl_at 96 14 lb_X12_sellTo_3 rfl) sg8_1
theorem dX12_sellTo_111 : decode cX12_sellTo 111 = .ok (.goto (-28), 3) := dx_167 (a := 255) (b := 228) (dl_at 96 15 lb_X12_sellTo_3 rfl) (dl_at 96 16 lb_X12_sellTo_3 rfl) (dl_at 96 17 lb_X12_sellTo_3 rfl) sg16_65508
theorem lb_X12_askedLetter_0 : dl_ck (cX12_askedLetter.data.toList.drop 0) [27, 156, 0, 7, 2, 167, 0, 20, 27, 42, 180, 0, 148, 161, 0, 11, 42, 5, 182, 0, 85, 167, 0, 4, 3, 172] = true := by decide +kernel
theorem dX12_askedLetter_0 : decode cX12_askedLetter 0 = .ok (.iload_n 1, 1) := dx_27 (dl_at 0 0 lb_X12_askedLetter_0 rfl)
theorem dX12_askedLetter_1 : decode cX12_askedLetter 1 = .ok (.ifCond .ge 7, 3) := dx_156 (a := 0) (b := 7) (dl_at 0 1 lb_X12_askedLetter_0 rfl) (dl_at 0 2 lb_X12_askedLetter_0 rfl) (dl_at 0 3 lb_X12_askedLetter_0 rfl) sg16_7
theorem dX12_askedLetter_8 : decode cX12_askedLetter 8 = .ok (.iload_n 1, 1) := dx_27 (dl_at 0 8 lb_X12_askedLetter_0 rfl)
theorem dX12_askedLetter_9 : decode cX12_askedLetter 9 = .ok (.aload_n 0, 1) := dx_42 (dl_at 0 9 lb_X12_askedLetter_0 rfl)
theorem dX12_askedLetter_10 : decode cX12_askedLetter 10 = .ok (.getfield 148, 3) := dx_180 (a := 0) (b := 148) (dl_at 0 10 lb_X12_askedLetter_0 rfl) (dl_at 0 11 lb_X12_askedLetter_0 rfl) (dl_at 0 12 lb_X12_askedLetter_0 rfl) rfl
theorem dX12_askedLetter_13 : decode cX12_askedLetter 13 = .ok (.if_icmp .lt 11, 3) := dx_161 (a := 0) (b := 11) (dl_at 0 13 lb_X12_askedLetter_0 rfl) (dl_at 0 14 lb_X12_askedLetter_0 rfl) (dl_at 0 15 lb_X12_askedLetter_0 rfl) sg16_11
theorem dX12_askedLetter_24 : decode cX12_askedLetter 24 = .ok (.iconst 0, 1) := dx_3 (dl_at 0 24 lb_X12_askedLetter_0 rfl)
theorem dX12_askedLetter_25 : decode cX12_askedLetter 25 = .ok (.ireturn, 1) := dx_172 (dl_at 0 25 lb_X12_askedLetter_0 rfl)
theorem dX12_askedLetter_16 : decode cX12_askedLetter 16 = .ok (.aload_n 0, 1) := dx_42 (dl_at 0 16 lb_X12_askedLetter_0 rfl)
theorem dX12_askedLetter_17 : decode cX12_askedLetter 17 = .ok (.iconst 2, 1) := dx_5 (dl_at 0 17 lb_X12_askedLetter_0 rfl)
theorem dX12_askedLetter_18 : decode cX12_askedLetter 18 = .ok (.invokevirtual 85, 3) := dx_182 (a := 0) (b := 85) (dl_at 0 18 lb_X12_askedLetter_0 rfl) (dl_at 0 19 lb_X12_askedLetter_0 rfl) (dl_at 0 20 lb_X12_askedLetter_0 rfl) rfl
theorem dX12_askedLetter_21 : decode cX12_askedLetter 21 = .ok (.goto 4, 3) := dx_167 (a := 0) (b := 4) (dl_at 0 21 lb_X12_askedLetter_0 rfl) (dl_at 0 22 lb_X12_askedLetter_0 rfl) (dl_at 0 23 lb_X12_askedLetter_0 rfl) sg16_4
theorem dX12_askedLetter_4 : decode cX12_askedLetter 4 = .ok (.iconst (-1), 1) := dx_2 (dl_at 0 4 lb_X12_askedLetter_0 rfl)
theorem dX12_askedLetter_5 : decode cX12_askedLetter 5 = .ok (.goto 20, 3) := dx_167 (a := 0) (b := 20) (dl_at 0 5 lb_X12_askedLetter_0 rfl) (dl_at 0 6 lb_X12_askedLetter_0 rfl) (dl_at 0 7 lb_X12_askedLetter_0 rfl) sg16_20
theorem lb_X12_sell_0 : dl_ck (cX12_sell.data.toList.drop 0) [27, 155, 0, 11, 42, 28, 182, 0, 154, 154, 0, 7, 2, 167, 0, 8, 42, 27, 182, 0, 197, 62, 29, 156, 0, 5, 29, 172, 42, 27, 182, 0] = true := by decide +kernel
theorem lb_X12_sell_1 : dl_ck (cX12_sell.data.toList.drop 32) [200, 28, 184, 0, 157, 154, 0, 6, 16, 252, 172, 42, 180, 0, 151, 16, 40, 160, 0, 6, 16, 254, 172, 42, 27, 182, 0, 191, 54, 4, 42, 27] = true := by decide +kernel
theorem lb_X12_sell_2 : dl_ck (cX12_sell.data.toList.drop 64) [28, 182, 0, 203, 21, 4, 42, 27, 182, 0, 164, 153, 0, 9, 17, 3, 232, 167, 0, 4, 3, 96, 172] = true := by decide +kernel
theorem dX12_sell_0 : decode cX12_sell 0 = .ok (.iload_n 1, 1) := dx_27 (dl_at 0 0 lb_X12_sell_0 rfl)
theorem dX12_sell_1 : decode cX12_sell 1 = .ok (.ifCond .lt 11, 3) := dx_155 (a := 0) (b := 11) (dl_at 0 1 lb_X12_sell_0 rfl) (dl_at 0 2 lb_X12_sell_0 rfl) (dl_at 0 3 lb_X12_sell_0 rfl) sg16_11
theorem dX12_sell_12 : decode cX12_sell 12 = .ok (.iconst (-1), 1) := dx_2 (dl_at 0 12 lb_X12_sell_0 rfl)
theorem dX12_sell_13 : decode cX12_sell 13 = .ok (.goto 8, 3) := dx_167 (a := 0) (b := 8) (dl_at 0 13 lb_X12_sell_0 rfl) (dl_at 0 14 lb_X12_sell_0 rfl) (dl_at 0 15 lb_X12_sell_0 rfl) sg16_8
theorem dX12_sell_21 : decode cX12_sell 21 = .ok (.istore_n 3, 1) := dx_62 (dl_at 0 21 lb_X12_sell_0 rfl)
theorem dX12_sell_22 : decode cX12_sell 22 = .ok (.iload_n 3, 1) := dx_29 (dl_at 0 22 lb_X12_sell_0 rfl)
theorem dX12_sell_23 : decode cX12_sell 23 = .ok (.ifCond .ge 5, 3) := dx_156 (a := 0) (b := 5) (dl_at 0 23 lb_X12_sell_0 rfl) (dl_at 0 24 lb_X12_sell_0 rfl) (dl_at 0 25 lb_X12_sell_0 rfl) sg16_5
theorem dX12_sell_26 : decode cX12_sell 26 = .ok (.iload_n 3, 1) := dx_29 (dl_at 0 26 lb_X12_sell_0 rfl)
theorem dX12_sell_27 : decode cX12_sell 27 = .ok (.ireturn, 1) := dx_172 (dl_at 0 27 lb_X12_sell_0 rfl)
theorem dX12_sell_4 : decode cX12_sell 4 = .ok (.aload_n 0, 1) := dx_42 (dl_at 0 4 lb_X12_sell_0 rfl)
theorem dX12_sell_5 : decode cX12_sell 5 = .ok (.iload_n 2, 1) := dx_28 (dl_at 0 5 lb_X12_sell_0 rfl)
theorem dX12_sell_6 : decode cX12_sell 6 = .ok (.invokevirtual 154, 3) := dx_182 (a := 0) (b := 154) (dl_at 0 6 lb_X12_sell_0 rfl) (dl_at 0 7 lb_X12_sell_0 rfl) (dl_at 0 8 lb_X12_sell_0 rfl) rfl
theorem dX12_sell_9 : decode cX12_sell 9 = .ok (.ifCond .ne 7, 3) := dx_154 (a := 0) (b := 7) (dl_at 0 9 lb_X12_sell_0 rfl) (dl_at 0 10 lb_X12_sell_0 rfl) (dl_at 0 11 lb_X12_sell_0 rfl) sg16_7
theorem dX12_sell_16 : decode cX12_sell 16 = .ok (.aload_n 0, 1) := dx_42 (dl_at 0 16 lb_X12_sell_0 rfl)
theorem dX12_sell_17 : decode cX12_sell 17 = .ok (.iload_n 1, 1) := dx_27 (dl_at 0 17 lb_X12_sell_0 rfl)
theorem dX12_sell_18 : decode cX12_sell 18 = .ok (.invokevirtual 197, 3) := dx_182 (a := 0) (b := 197) (dl_at 0 18 lb_X12_sell_0 rfl) (dl_at 0 19 lb_X12_sell_0 rfl) (dl_at 0 20 lb_X12_sell_0 rfl) rfl
theorem dX12_sell_28 : decode cX12_sell 28 = .ok (.aload_n 0, 1) := dx_42 (dl_at 0 28 lb_X12_sell_0 rfl)
theorem dX12_sell_29 : decode cX12_sell 29 = .ok (.iload_n 1, 1) := dx_27 (dl_at 0 29 lb_X12_sell_0 rfl)
theorem dX12_sell_30 : decode cX12_sell 30 = .ok (.invokevirtual 200, 3) := dx_182 (a := 0) (b := 200) (dl_at 0 30 lb_X12_sell_0 rfl) (dl_at 0 31 lb_X12_sell_0 rfl) (dl_at 32 0 lb_X12_sell_1 rfl) rfl
theorem dX12_sell_33 : decode cX12_sell 33 = .ok (.iload_n 2, 1) := dx_28 (dl_at 32 1 lb_X12_sell_1 rfl)
theorem dX12_sell_34 : decode cX12_sell 34 = .ok (.invokestatic 157, 3) := dx_184 (a := 0) (b := 157) (dl_at 32 2 lb_X12_sell_1 rfl) (dl_at 32 3 lb_X12_sell_1 rfl) (dl_at 32 4 lb_X12_sell_1 rfl) rfl
theorem dX12_sell_37 : decode cX12_sell 37 = .ok (.ifCond .ne 6, 3) := dx_154 (a := 0) (b := 6) (dl_at 32 5 lb_X12_sell_1 rfl) (dl_at 32 6 lb_X12_sell_1 rfl) (dl_at 32 7 lb_X12_sell_1 rfl) sg16_6
theorem dX12_sell_43 : decode cX12_sell 43 = .ok (.aload_n 0, 1) := dx_42 (dl_at 32 11 lb_X12_sell_1 rfl)
theorem dX12_sell_44 : decode cX12_sell 44 = .ok (.getfield 151, 3) := dx_180 (a := 0) (b := 151) (dl_at 32 12 lb_X12_sell_1 rfl) (dl_at 32 13 lb_X12_sell_1 rfl) (dl_at 32 14 lb_X12_sell_1 rfl) rfl
theorem dX12_sell_47 : decode cX12_sell 47 = .ok (.bipush 40, 2) := dx_16 (dl_at 32 15 lb_X12_sell_1 rfl) (dl_at 32 16 lb_X12_sell_1 rfl) sg8_40
theorem dX12_sell_49 : decode cX12_sell 49 = .ok (.if_icmp .ne 6, 3) := dx_160 (a := 0) (b := 6) (dl_at 32 17 lb_X12_sell_1 rfl) (dl_at 32 18 lb_X12_sell_1 rfl) (dl_at 32 19 lb_X12_sell_1 rfl) sg16_6
theorem dX12_sell_55 : decode cX12_sell 55 = .ok (.aload_n 0, 1) := dx_42 (dl_at 32 23 lb_X12_sell_1 rfl)
theorem dX12_sell_56 : decode cX12_sell 56 = .ok (.iload_n 1, 1) := dx_27 (dl_at 32 24 lb_X12_sell_1 rfl)
theorem dX12_sell_57 : decode cX12_sell 57 = .ok (.invokevirtual 191, 3) := dx_182 (a := 0) (b := 191) (dl_at 32 25 lb_X12_sell_1 rfl) (dl_at 32 26 lb_X12_sell_1 rfl) (dl_at 32 27 lb_X12_sell_1 rfl) rfl
theorem dX12_sell_60 : decode cX12_sell 60 = .ok (.istore 4, 2) := dx_54 (dl_at 32 28 lb_X12_sell_1 rfl) (dl_at 32 29 lb_X12_sell_1 rfl)
theorem dX12_sell_62 : decode cX12_sell 62 = .ok (.aload_n 0, 1) := dx_42 (dl_at 32 30 lb_X12_sell_1 rfl)
theorem dX12_sell_63 : decode cX12_sell 63 = .ok (.iload_n 1, 1) := dx_27 (dl_at 32 31 lb_X12_sell_1 rfl)
theorem dX12_sell_64 : decode cX12_sell 64 = .ok (.iload_n 2, 1) := dx_28 (dl_at 64 0 lb_X12_sell_2 rfl)
theorem dX12_sell_65 : decode cX12_sell 65 = .ok (.invokevirtual 203, 3) := dx_182 (a := 0) (b := 203) (dl_at 64 1 lb_X12_sell_2 rfl) (dl_at 64 2 lb_X12_sell_2 rfl) (dl_at 64 3 lb_X12_sell_2 rfl) rfl
theorem dX12_sell_68 : decode cX12_sell 68 = .ok (.iload 4, 2) := dx_21 (dl_at 64 4 lb_X12_sell_2 rfl) (dl_at 64 5 lb_X12_sell_2 rfl)
theorem dX12_sell_70 : decode cX12_sell 70 = .ok (.aload_n 0, 1) := dx_42 (dl_at 64 6 lb_X12_sell_2 rfl)
theorem dX12_sell_71 : decode cX12_sell 71 = .ok (.iload_n 1, 1) := dx_27 (dl_at 64 7 lb_X12_sell_2 rfl)
theorem dX12_sell_72 : decode cX12_sell 72 = .ok (.invokevirtual 164, 3) := dx_182 (a := 0) (b := 164) (dl_at 64 8 lb_X12_sell_2 rfl) (dl_at 64 9 lb_X12_sell_2 rfl) (dl_at 64 10 lb_X12_sell_2 rfl) rfl
theorem dX12_sell_75 : decode cX12_sell 75 = .ok (.ifCond .eq 9, 3) := dx_153 (a := 0) (b := 9) (dl_at 64 11 lb_X12_sell_2 rfl) (dl_at 64 12 lb_X12_sell_2 rfl) (dl_at 64 13 lb_X12_sell_2 rfl) sg16_9
theorem dX12_sell_84 : decode cX12_sell 84 = .ok (.iconst 0, 1) := dx_3 (dl_at 64 20 lb_X12_sell_2 rfl)
theorem dX12_sell_85 : decode cX12_sell 85 = .ok (.iadd, 1) := dx_96 (dl_at 64 21 lb_X12_sell_2 rfl)
theorem dX12_sell_86 : decode cX12_sell 86 = .ok (.ireturn, 1) := dx_172 (dl_at 64 22 lb_X12_sell_2 rfl)
theorem dX12_sell_78 : decode cX12_sell 78 = .ok (.sipush 1000, 3) := dx_17 (a := 3) (b := 232) (dl_at 64 14 lb_X12_sell_2 rfl) (dl_at 64 15 lb_X12_sell_2 rfl) (dl_at 64 16 lb_X12_sell_2 rfl) sg16_1000
theorem dX12_sell_81 : decode cX12_sell 81 = .ok (.goto 4, 3) := dx_167 (a := 0) (b := 4) (dl_at 64 17 lb_X12_sell_2 rfl) (dl_at 64 18 lb_X12_sell_2 rfl) (dl_at 64 19 lb_X12_sell_2 rfl) sg16_4
theorem dX12_sell_52 : decode cX12_sell 52 = .ok (.bipush (-2), 2) := dx_16 (dl_at 32 20 lb_X12_sell_1 rfl) (dl_at 32 21 lb_X12_sell_1 rfl) sg8_254
theorem dX12_sell_54 : decode cX12_sell 54 = .ok (.ireturn, 1) := dx_172 (dl_at 32 22 lb_X12_sell_1 rfl)
theorem dX12_sell_40 : decode cX12_sell 40 = .ok (.bipush (-4), 2) := dx_16 (dl_at 32 8 lb_X12_sell_1 rfl) (dl_at 32 9 lb_X12_sell_1 rfl) sg8_252
theorem dX12_sell_42 : decode cX12_sell 42 = .ok (.ireturn, 1) := dx_172 (dl_at 32 10 lb_X12_sell_1 rfl)
theorem lb_X12_days_0 : dl_ck (cX12_days.data.toList.drop 0) [27, 3, 16, 20, 184, 0, 77, 154, 0, 5, 2, 172, 42, 180, 0, 145, 27, 96, 16, 99, 164, 0, 6, 16, 254, 172, 42, 89, 180, 0, 145, 27] = true := by decide +kernel
theorem lb_X12_days_1 : dl_ck (cX12_days.data.toList.drop 32) [96, 181, 0, 145, 42, 180, 0, 145, 172] = true := by decide +kernel
theorem dX12_days_0 : decode cX12_days 0 = .ok (.iload_n 1, 1) := dx_27 (dl_at 0 0 lb_X12_days_0 rfl)
theorem dX12_days_1 : decode cX12_days 1 = .ok (.iconst 0, 1) := dx_3 (dl_at 0 1 lb_X12_days_0 rfl)
theorem dX12_days_2 : decode cX12_days 2 = .ok (.bipush 20, 2) := dx_16 (dl_at 0 2 lb_X12_days_0 rfl) (dl_at 0 3 lb_X12_days_0 rfl) sg8_20
theorem dX12_days_4 : decode cX12_days 4 = .ok (.invokestatic 77, 3) := dx_184 (a := 0) (b := 77) (dl_at 0 4 lb_X12_days_0 rfl) (dl_at 0 5 lb_X12_days_0 rfl) (dl_at 0 6 lb_X12_days_0 rfl) rfl
theorem dX12_days_7 : decode cX12_days 7 = .ok (.ifCond .ne 5, 3) := dx_154 (a := 0) (b := 5) (dl_at 0 7 lb_X12_days_0 rfl) (dl_at 0 8 lb_X12_days_0 rfl) (dl_at 0 9 lb_X12_days_0 rfl) sg16_5
theorem dX12_days_12 : decode cX12_days 12 = .ok (.aload_n 0, 1) := dx_42 (dl_at 0 12 lb_X12_days_0 rfl)
theorem dX12_days_13 : decode cX12_days 13 = .ok (.getfield 145, 3) := dx_180 (a := 0) (b := 145) (dl_at 0 13 lb_X12_days_0 rfl) (dl_at 0 14 lb_X12_days_0 rfl) (dl_at 0 15 lb_X12_days_0 rfl) rfl
theorem dX12_days_16 : decode cX12_days 16 = .ok (.iload_n 1, 1) := dx_27 (dl_at 0 16 lb_X12_days_0 rfl)
theorem dX12_days_17 : decode cX12_days 17 = .ok (.iadd, 1) := dx_96 (dl_at 0 17 lb_X12_days_0 rfl)
theorem dX12_days_18 : decode cX12_days 18 = .ok (.bipush 99, 2) := dx_16 (dl_at 0 18 lb_X12_days_0 rfl) (dl_at 0 19 lb_X12_days_0 rfl) sg8_99
theorem dX12_days_20 : decode cX12_days 20 = .ok (.if_icmp .le 6, 3) := dx_164 (a := 0) (b := 6) (dl_at 0 20 lb_X12_days_0 rfl) (dl_at 0 21 lb_X12_days_0 rfl) (dl_at 0 22 lb_X12_days_0 rfl) sg16_6
theorem dX12_days_26 : decode cX12_days 26 = .ok (.aload_n 0, 1) := dx_42 (dl_at 0 26 lb_X12_days_0 rfl)
theorem dX12_days_27 : decode cX12_days 27 = .ok (.dup, 1) := dx_89 (dl_at 0 27 lb_X12_days_0 rfl)
theorem dX12_days_28 : decode cX12_days 28 = .ok (.getfield 145, 3) := dx_180 (a := 0) (b := 145) (dl_at 0 28 lb_X12_days_0 rfl) (dl_at 0 29 lb_X12_days_0 rfl) (dl_at 0 30 lb_X12_days_0 rfl) rfl
theorem dX12_days_31 : decode cX12_days 31 = .ok (.iload_n 1, 1) := dx_27 (dl_at 0 31 lb_X12_days_0 rfl)
theorem dX12_days_32 : decode cX12_days 32 = .ok (.iadd, 1) := dx_96 (dl_at 32 0 lb_X12_days_1 rfl)
theorem dX12_days_33 : decode cX12_days 33 = .ok (.putfield 145, 3) := dx_181 (a := 0) (b := 145) (dl_at 32 1 lb_X12_days_1 rfl) (dl_at 32 2 lb_X12_days_1 rfl) (dl_at 32 3 lb_X12_days_1 rfl) rfl
theorem dX12_days_36 : decode cX12_days 36 = .ok (.aload_n 0, 1) := dx_42 (dl_at 32 4 lb_X12_days_1 rfl)
theorem dX12_days_37 : decode cX12_days 37 = .ok (.getfield 145, 3) := dx_180 (a := 0) (b := 145) (dl_at 32 5 lb_X12_days_1 rfl) (dl_at 32 6 lb_X12_days_1 rfl) (dl_at 32 7 lb_X12_days_1 rfl) rfl
theorem dX12_days_40 : decode cX12_days 40 = .ok (.ireturn, 1) := dx_172 (dl_at 32 8 lb_X12_days_1 rfl)
theorem dX12_days_23 : decode cX12_days 23 = .ok (.bipush (-2), 2) := dx_16 (dl_at 0 23 lb_X12_days_0 rfl) (dl_at 0 24 lb_X12_days_0 rfl) sg8_254
theorem dX12_days_25 : decode cX12_days 25 = .ok (.ireturn, 1) := dx_172 (dl_at 0 25 lb_X12_days_0 rfl)
theorem dX12_days_10 : decode cX12_days 10 = .ok (.iconst (-1), 1) := dx_2 (dl_at 0 10 lb_X12_days_0 rfl)
theorem dX12_days_11 : decode cX12_days 11 = .ok (.ireturn, 1) := dx_172 (dl_at 0 11 lb_X12_days_0 rfl)
theorem lb_X12_where_0 : dl_ck (cX12_where.data.toList.drop 0) [42, 27, 182, 0, 197, 61, 28, 156, 0, 7, 28, 167, 0, 20, 42, 42, 27, 16, 6, 182, 0, 161, 42, 27, 8, 182, 0, 161, 182, 0, 103, 172] = true := by decide +kernel
theorem dX12_where_0 : decode cX12_where 0 = .ok (.aload_n 0, 1) := dx_42 (dl_at 0 0 lb_X12_where_0 rfl)
theorem dX12_where_1 : decode cX12_where 1 = .ok (.iload_n 1, 1) := dx_27 (dl_at 0 1 lb_X12_where_0 rfl)
theorem dX12_where_2 : decode cX12_where 2 = .ok (.invokevirtual 197, 3) := dx_182 (a := 0) (b := 197) (dl_at 0 2 lb_X12_where_0 rfl) (dl_at 0 3 lb_X12_where_0 rfl) (dl_at 0 4 lb_X12_where_0 rfl) rfl
theorem dX12_where_5 : decode cX12_where 5 = .ok (.istore_n 2, 1) := dx_61 (dl_at 0 5 lb_X12_where_0 rfl)
theorem dX12_where_6 : decode cX12_where 6 = .ok (.iload_n 2, 1) := dx_28 (dl_at 0 6 lb_X12_where_0 rfl)
theorem dX12_where_7 : decode cX12_where 7 = .ok (.ifCond .ge 7, 3) := dx_156 (a := 0) (b := 7) (dl_at 0 7 lb_X12_where_0 rfl) (dl_at 0 8 lb_X12_where_0 rfl) (dl_at 0 9 lb_X12_where_0 rfl) sg16_7
theorem dX12_where_14 : decode cX12_where 14 = .ok (.aload_n 0, 1) := dx_42 (dl_at 0 14 lb_X12_where_0 rfl)
theorem dX12_where_15 : decode cX12_where 15 = .ok (.aload_n 0, 1) := dx_42 (dl_at 0 15 lb_X12_where_0 rfl)
theorem dX12_where_16 : decode cX12_where 16 = .ok (.iload_n 1, 1) := dx_27 (dl_at 0 16 lb_X12_where_0 rfl)
theorem dX12_where_17 : decode cX12_where 17 = .ok (.bipush 6, 2) := dx_16 (dl_at 0 17 lb_X12_where_0 rfl) (dl_at 0 18 lb_X12_where_0 rfl) sg8_6
theorem dX12_where_19 : decode cX12_where 19 = .ok (.invokevirtual 161, 3) := dx_182 (a := 0) (b := 161) (dl_at 0 19 lb_X12_where_0 rfl) (dl_at 0 20 lb_X12_where_0 rfl) (dl_at 0 21 lb_X12_where_0 rfl) rfl
theorem dX12_where_22 : decode cX12_where 22 = .ok (.aload_n 0, 1) := dx_42 (dl_at 0 22 lb_X12_where_0 rfl)
theorem dX12_where_23 : decode cX12_where 23 = .ok (.iload_n 1, 1) := dx_27 (dl_at 0 23 lb_X12_where_0 rfl)
theorem dX12_where_24 : decode cX12_where 24 = .ok (.iconst 5, 1) := dx_8 (dl_at 0 24 lb_X12_where_0 rfl)
theorem dX12_where_25 : decode cX12_where 25 = .ok (.invokevirtual 161, 3) := dx_182 (a := 0) (b := 161) (dl_at 0 25 lb_X12_where_0 rfl) (dl_at 0 26 lb_X12_where_0 rfl) (dl_at 0 27 lb_X12_where_0 rfl) rfl
theorem dX12_where_28 : decode cX12_where 28 = .ok (.invokevirtual 103, 3) := dx_182 (a := 0) (b := 103) (dl_at 0 28 lb_X12_where_0 rfl) (dl_at 0 29 lb_X12_where_0 rfl) (dl_at 0 30 lb_X12_where_0 rfl) rfl
theorem dX12_where_31 : decode cX12_where 31 = .ok (.ireturn, 1) := dx_172 (dl_at 0 31 lb_X12_where_0 rfl)
theorem dX12_where_10 : decode cX12_where 10 = .ok (.iload_n 2, 1) := dx_28 (dl_at 0 10 lb_X12_where_0 rfl)
theorem dX12_where_11 : decode cX12_where 11 = .ok (.goto 20, 3) := dx_167 (a := 0) (b := 20) (dl_at 0 11 lb_X12_where_0 rfl) (dl_at 0 12 lb_X12_where_0 rfl) (dl_at 0 13 lb_X12_where_0 rfl) sg16_20
theorem lb_X12_letterTells_0 : dl_ck (cX12_letterTells.data.toList.drop 0) [28, 154, 0, 12, 42, 27, 3, 182, 0, 161, 167, 0, 53, 28, 4, 160, 0, 12, 42, 27, 4, 182, 0, 161, 167, 0, 39, 28, 5, 160, 0, 12] = true := by decide +kernel
theorem lb_X12_letterTells_1 : dl_ck (cX12_letterTells.data.toList.drop 32) [42, 27, 3, 182, 0, 194, 167, 0, 25, 28, 6, 160, 0, 13, 42, 27, 16, 9, 182, 0, 161, 167, 0, 10, 42, 27, 16, 7, 182, 0, 161, 172] = true := by decide +kernel
theorem dX12_letterTells_0 : decode cX12_letterTells 0 = .ok (.iload_n 2, 1) := dx_28 (dl_at 0 0 lb_X12_letterTells_0 rfl)
theorem dX12_letterTells_1 : decode cX12_letterTells 1 = .ok (.ifCond .ne 12, 3) := dx_154 (a := 0) (b := 12) (dl_at 0 1 lb_X12_letterTells_0 rfl) (dl_at 0 2 lb_X12_letterTells_0 rfl) (dl_at 0 3 lb_X12_letterTells_0 rfl) sg16_12
theorem dX12_letterTells_13 : decode cX12_letterTells 13 = .ok (.iload_n 2, 1) := dx_28 (dl_at 0 13 lb_X12_letterTells_0 rfl)
theorem dX12_letterTells_14 : decode cX12_letterTells 14 = .ok (.iconst 1, 1) := dx_4 (dl_at 0 14 lb_X12_letterTells_0 rfl)
theorem dX12_letterTells_15 : decode cX12_letterTells 15 = .ok (.if_icmp .ne 12, 3) := dx_160 (a := 0) (b := 12) (dl_at 0 15 lb_X12_letterTells_0 rfl) (dl_at 0 16 lb_X12_letterTells_0 rfl) (dl_at 0 17 lb_X12_letterTells_0 rfl) sg16_12
theorem dX12_letterTells_27 : decode cX12_letterTells 27 = .ok (.iload_n 2, 1) := dx_28 (dl_at 0 27 lb_X12_letterTells_0 rfl)
theorem dX12_letterTells_28 : decode cX12_letterTells 28 = .ok (.iconst 2, 1) := dx_5 (dl_at 0 28 lb_X12_letterTells_0 rfl)
theorem dX12_letterTells_29 : decode cX12_letterTells 29 = .ok (.if_icmp .ne 12, 3) := dx_160 (a := 0) (b := 12) (dl_at 0 29 lb_X12_letterTells_0 rfl) (dl_at 0 30 lb_X12_letterTells_0 rfl) (dl_at 0 31 lb_X12_letterTells_0 rfl) sg16_12
theorem dX12_letterTells_41 : decode cX12_letterTells 41 = .ok (.iload_n 2, 1) := dx_28 (dl_at 32 9 lb_X12_letterTells_1 rfl)
theorem dX12_letterTells_42 : decode cX12_letterTells 42 = .ok (.iconst 3, 1) := dx_6 (dl_at 32 10 lb_X12_letterTells_1 rfl)
theorem dX12_letterTells_43 : decode cX12_letterTells 43 = .ok (.if_icmp .ne 13, 3) := dx_160 (a := 0) (b := 13) (dl_at 32 11 lb_X12_letterTells_1 rfl) (dl_at 32 12 lb_X12_letterTells_1 rfl) (dl_at 32 13 lb_X12_letterTells_1 rfl) sg16_13
theorem dX12_letterTells_56 : decode cX12_letterTells 56 = .ok (.aload_n 0, 1) := dx_42 (dl_at 32 24 lb_X12_letterTells_1 rfl)
theorem dX12_letterTells_57 : decode cX12_letterTells 57 = .ok (.iload_n 1, 1) := dx_27 (dl_at 32 25 lb_X12_letterTells_1 rfl)
theorem dX12_letterTells_58 : decode cX12_letterTells 58 = .ok (.bipush 7, 2) := dx_16 (dl_at 32 26 lb_X12_letterTells_1 rfl) (dl_at 32 27 lb_X12_letterTells_1 rfl) sg8_7
theorem dX12_letterTells_60 : decode cX12_letterTells 60 = .ok (.invokevirtual 161, 3) := dx_182 (a := 0) (b := 161) (dl_at 32 28 lb_X12_letterTells_1 rfl) (dl_at 32 29 lb_X12_letterTells_1 rfl) (dl_at 32 30 lb_X12_letterTells_1 rfl) rfl
theorem dX12_letterTells_63 : decode cX12_letterTells 63 = .ok (.ireturn, 1) := dx_172 (dl_at 32 31 lb_X12_letterTells_1 rfl)
theorem dX12_letterTells_46 : decode cX12_letterTells 46 = .ok (.aload_n 0, 1) := dx_42 (dl_at 32 14 lb_X12_letterTells_1 rfl)
theorem dX12_letterTells_47 : decode cX12_letterTells 47 = .ok (.iload_n 1, 1) := dx_27 (dl_at 32 15 lb_X12_letterTells_1 rfl)
theorem dX12_letterTells_48 : decode cX12_letterTells 48 = .ok (.bipush 9, 2) := dx_16 (dl_at 32 16 lb_X12_letterTells_1 rfl) (dl_at 32 17 lb_X12_letterTells_1 rfl) sg8_9
theorem dX12_letterTells_50 : decode cX12_letterTells 50 = .ok (.invokevirtual 161, 3) := dx_182 (a := 0) (b := 161) (dl_at 32 18 lb_X12_letterTells_1 rfl) (dl_at 32 19 lb_X12_letterTells_1 rfl) (dl_at 32 20 lb_X12_letterTells_1 rfl) rfl
theorem dX12_letterTells_53 : decode cX12_letterTells 53 = .ok (.goto 10, 3) := dx_167 (a := 0) (b := 10) (dl_at 32 21 lb_X12_letterTells_1 rfl) (dl_at 32 22 lb_X12_letterTells_1 rfl) (dl_at 32 23 lb_X12_letterTells_1 rfl) sg16_10
theorem dX12_letterTells_32 : decode cX12_letterTells 32 = .ok (.aload_n 0, 1) := dx_42 (dl_at 32 0 lb_X12_letterTells_1 rfl)
theorem dX12_letterTells_33 : decode cX12_letterTells 33 = .ok (.iload_n 1, 1) := dx_27 (dl_at 32 1 lb_X12_letterTells_1 rfl)
theorem dX12_letterTells_34 : decode cX12_letterTells 34 = .ok (.iconst 0, 1) := dx_3 (dl_at 32 2 lb_X12_letterTells_1 rfl)
theorem dX12_letterTells_35 : decode cX12_letterTells 35 = .ok (.invokevirtual 194, 3) := dx_182 (a := 0) (b := 194) (dl_at 32 3 lb_X12_letterTells_1 rfl) (dl_at 32 4 lb_X12_letterTells_1 rfl) (dl_at 32 5 lb_X12_letterTells_1 rfl) rfl
theorem dX12_letterTells_38 : decode cX12_letterTells 38 = .ok (.goto 25, 3) := dx_167 (a := 0) (b := 25) (dl_at 32 6 lb_X12_letterTells_1 rfl) (dl_at 32 7 lb_X12_letterTells_1 rfl) (dl_at 32 8 lb_X12_letterTells_1 rfl) sg16_25
theorem dX12_letterTells_18 : decode cX12_letterTells 18 = .ok (.aload_n 0, 1) := dx_42 (dl_at 0 18 lb_X12_letterTells_0 rfl)
theorem dX12_letterTells_19 : decode cX12_letterTells 19 = .ok (.iload_n 1, 1) := dx_27 (dl_at 0 19 lb_X12_letterTells_0 rfl)
theorem dX12_letterTells_20 : decode cX12_letterTells 20 = .ok (.iconst 1, 1) := dx_4 (dl_at 0 20 lb_X12_letterTells_0 rfl)
theorem dX12_letterTells_21 : decode cX12_letterTells 21 = .ok (.invokevirtual 161, 3) := dx_182 (a := 0) (b := 161) (dl_at 0 21 lb_X12_letterTells_0 rfl) (dl_at 0 22 lb_X12_letterTells_0 rfl) (dl_at 0 23 lb_X12_letterTells_0 rfl) rfl
theorem dX12_letterTells_24 : decode cX12_letterTells 24 = .ok (.goto 39, 3) := dx_167 (a := 0) (b := 39) (dl_at 0 24 lb_X12_letterTells_0 rfl) (dl_at 0 25 lb_X12_letterTells_0 rfl) (dl_at 0 26 lb_X12_letterTells_0 rfl) sg16_39
theorem dX12_letterTells_4 : decode cX12_letterTells 4 = .ok (.aload_n 0, 1) := dx_42 (dl_at 0 4 lb_X12_letterTells_0 rfl)
theorem dX12_letterTells_5 : decode cX12_letterTells 5 = .ok (.iload_n 1, 1) := dx_27 (dl_at 0 5 lb_X12_letterTells_0 rfl)
theorem dX12_letterTells_6 : decode cX12_letterTells 6 = .ok (.iconst 0, 1) := dx_3 (dl_at 0 6 lb_X12_letterTells_0 rfl)
theorem dX12_letterTells_7 : decode cX12_letterTells 7 = .ok (.invokevirtual 161, 3) := dx_182 (a := 0) (b := 161) (dl_at 0 7 lb_X12_letterTells_0 rfl) (dl_at 0 8 lb_X12_letterTells_0 rfl) (dl_at 0 9 lb_X12_letterTells_0 rfl) rfl
theorem dX12_letterTells_10 : decode cX12_letterTells 10 = .ok (.goto 53, 3) := dx_167 (a := 0) (b := 53) (dl_at 0 10 lb_X12_letterTells_0 rfl) (dl_at 0 11 lb_X12_letterTells_0 rfl) (dl_at 0 12 lb_X12_letterTells_0 rfl) sg16_53
theorem lb_X12_letter_0 : dl_ck (cX12_letter.data.toList.drop 0) [28, 3, 7, 184, 0, 77, 154, 0, 7, 2, 167, 0, 8, 42, 27, 182, 0, 197, 62, 29, 156, 0, 7, 29, 167, 0, 14, 42, 42, 27, 28, 182] = true := by decide +kernel
theorem lb_X12_letter_1 : dl_ck (cX12_letter.data.toList.drop 32) [0, 207, 4, 182, 0, 103, 172] = true := by decide +kernel
theorem dX12_letter_0 : decode cX12_letter 0 = .ok (.iload_n 2, 1) := dx_28 (dl_at 0 0 lb_X12_letter_0 rfl)
theorem dX12_letter_1 : decode cX12_letter 1 = .ok (.iconst 0, 1) := dx_3 (dl_at 0 1 lb_X12_letter_0 rfl)
theorem dX12_letter_2 : decode cX12_letter 2 = .ok (.iconst 4, 1) := dx_7 (dl_at 0 2 lb_X12_letter_0 rfl)
theorem dX12_letter_3 : decode cX12_letter 3 = .ok (.invokestatic 77, 3) := dx_184 (a := 0) (b := 77) (dl_at 0 3 lb_X12_letter_0 rfl) (dl_at 0 4 lb_X12_letter_0 rfl) (dl_at 0 5 lb_X12_letter_0 rfl) rfl
theorem dX12_letter_6 : decode cX12_letter 6 = .ok (.ifCond .ne 7, 3) := dx_154 (a := 0) (b := 7) (dl_at 0 6 lb_X12_letter_0 rfl) (dl_at 0 7 lb_X12_letter_0 rfl) (dl_at 0 8 lb_X12_letter_0 rfl) sg16_7
theorem dX12_letter_13 : decode cX12_letter 13 = .ok (.aload_n 0, 1) := dx_42 (dl_at 0 13 lb_X12_letter_0 rfl)
theorem dX12_letter_14 : decode cX12_letter 14 = .ok (.iload_n 1, 1) := dx_27 (dl_at 0 14 lb_X12_letter_0 rfl)
theorem dX12_letter_15 : decode cX12_letter 15 = .ok (.invokevirtual 197, 3) := dx_182 (a := 0) (b := 197) (dl_at 0 15 lb_X12_letter_0 rfl) (dl_at 0 16 lb_X12_letter_0 rfl) (dl_at 0 17 lb_X12_letter_0 rfl) rfl
theorem dX12_letter_18 : decode cX12_letter 18 = .ok (.istore_n 3, 1) := dx_62 (dl_at 0 18 lb_X12_letter_0 rfl)
theorem dX12_letter_19 : decode cX12_letter 19 = .ok (.iload_n 3, 1) := dx_29 (dl_at 0 19 lb_X12_letter_0 rfl)
theorem dX12_letter_20 : decode cX12_letter 20 = .ok (.ifCond .ge 7, 3) := dx_156 (a := 0) (b := 7) (dl_at 0 20 lb_X12_letter_0 rfl) (dl_at 0 21 lb_X12_letter_0 rfl) (dl_at 0 22 lb_X12_letter_0 rfl) sg16_7
theorem dX12_letter_27 : decode cX12_letter 27 = .ok (.aload_n 0, 1) := dx_42 (dl_at 0 27 lb_X12_letter_0 rfl)
theorem dX12_letter_28 : decode cX12_letter 28 = .ok (.aload_n 0, 1) := dx_42 (dl_at 0 28 lb_X12_letter_0 rfl)
theorem dX12_letter_29 : decode cX12_letter 29 = .ok (.iload_n 1, 1) := dx_27 (dl_at 0 29 lb_X12_letter_0 rfl)
theorem dX12_letter_30 : decode cX12_letter 30 = .ok (.iload_n 2, 1) := dx_28 (dl_at 0 30 lb_X12_letter_0 rfl)
theorem dX12_letter_31 : decode cX12_letter 31 = .ok (.invokevirtual 207, 3) := dx_182 (a := 0) (b := 207) (dl_at 0 31 lb_X12_letter_0 rfl) (dl_at 32 0 lb_X12_letter_1 rfl) (dl_at 32 1 lb_X12_letter_1 rfl) rfl
theorem dX12_letter_34 : decode cX12_letter 34 = .ok (.iconst 1, 1) := dx_4 (dl_at 32 2 lb_X12_letter_1 rfl)
theorem dX12_letter_35 : decode cX12_letter 35 = .ok (.invokevirtual 103, 3) := dx_182 (a := 0) (b := 103) (dl_at 32 3 lb_X12_letter_1 rfl) (dl_at 32 4 lb_X12_letter_1 rfl) (dl_at 32 5 lb_X12_letter_1 rfl) rfl
theorem dX12_letter_38 : decode cX12_letter 38 = .ok (.ireturn, 1) := dx_172 (dl_at 32 6 lb_X12_letter_1 rfl)
theorem dX12_letter_23 : decode cX12_letter 23 = .ok (.iload_n 3, 1) := dx_29 (dl_at 0 23 lb_X12_letter_0 rfl)
theorem dX12_letter_24 : decode cX12_letter 24 = .ok (.goto 14, 3) := dx_167 (a := 0) (b := 14) (dl_at 0 24 lb_X12_letter_0 rfl) (dl_at 0 25 lb_X12_letter_0 rfl) (dl_at 0 26 lb_X12_letter_0 rfl) sg16_14
theorem dX12_letter_9 : decode cX12_letter 9 = .ok (.iconst (-1), 1) := dx_2 (dl_at 0 9 lb_X12_letter_0 rfl)
theorem dX12_letter_10 : decode cX12_letter 10 = .ok (.goto 8, 3) := dx_167 (a := 0) (b := 8) (dl_at 0 10 lb_X12_letter_0 rfl) (dl_at 0 11 lb_X12_letter_0 rfl) (dl_at 0 12 lb_X12_letter_0 rfl) sg16_8
theorem lb_X12_can_0 : dl_ck (cX12_can.data.toList.drop 0) [42, 27, 182, 0, 197, 61, 28, 156, 0, 7, 28, 167, 0, 8, 42, 27, 182, 0, 200, 172] = true := by decide +kernel
theorem dX12_can_0 : decode cX12_can 0 = .ok (.aload_n 0, 1) := dx_42 (dl_at 0 0 lb_X12_can_0 rfl)
theorem dX12_can_1 : decode cX12_can 1 = .ok (.iload_n 1, 1) := dx_27 (dl_at 0 1 lb_X12_can_0 rfl)
theorem dX12_can_2 : decode cX12_can 2 = .ok (.invokevirtual 197, 3) := dx_182 (a := 0) (b := 197) (dl_at 0 2 lb_X12_can_0 rfl) (dl_at 0 3 lb_X12_can_0 rfl) (dl_at 0 4 lb_X12_can_0 rfl) rfl
theorem dX12_can_5 : decode cX12_can 5 = .ok (.istore_n 2, 1) := dx_61 (dl_at 0 5 lb_X12_can_0 rfl)
theorem dX12_can_6 : decode cX12_can 6 = .ok (.iload_n 2, 1) := dx_28 (dl_at 0 6 lb_X12_can_0 rfl)
theorem dX12_can_7 : decode cX12_can 7 = .ok (.ifCond .ge 7, 3) := dx_156 (a := 0) (b := 7) (dl_at 0 7 lb_X12_can_0 rfl) (dl_at 0 8 lb_X12_can_0 rfl) (dl_at 0 9 lb_X12_can_0 rfl) sg16_7
theorem dX12_can_14 : decode cX12_can 14 = .ok (.aload_n 0, 1) := dx_42 (dl_at 0 14 lb_X12_can_0 rfl)
theorem dX12_can_15 : decode cX12_can 15 = .ok (.iload_n 1, 1) := dx_27 (dl_at 0 15 lb_X12_can_0 rfl)
theorem dX12_can_16 : decode cX12_can 16 = .ok (.invokevirtual 200, 3) := dx_182 (a := 0) (b := 200) (dl_at 0 16 lb_X12_can_0 rfl) (dl_at 0 17 lb_X12_can_0 rfl) (dl_at 0 18 lb_X12_can_0 rfl) rfl
theorem dX12_can_19 : decode cX12_can 19 = .ok (.ireturn, 1) := dx_172 (dl_at 0 19 lb_X12_can_0 rfl)
theorem dX12_can_10 : decode cX12_can 10 = .ok (.iload_n 2, 1) := dx_28 (dl_at 0 10 lb_X12_can_0 rfl)
theorem dX12_can_11 : decode cX12_can 11 = .ok (.goto 8, 3) := dx_167 (a := 0) (b := 8) (dl_at 0 11 lb_X12_can_0 rfl) (dl_at 0 12 lb_X12_can_0 rfl) (dl_at 0 13 lb_X12_can_0 rfl) sg16_8
def L_sm_sellTo_83_0 (r3 : Int32) (r4 : Int32) (t2 : Int32) (vk : Int32) (vx : Int32) (y1 : Int32) : Nat → (Int32) → (Nat → Nat → Int32) → Nat → Nat → Int32
  | 0, v6_83, nu83_ => nu83_
  | n + 1, v6_83, nu83_ =>
    if v6_83 ≥ (7 : Int32) then (
      LETV (y1 + 1 : Int32) fun t32 =>
      LETV (va_up nu83_ 0 (upd (nu83_ 0) 17 t32) : Nat → Nat → Int32) fun nu33 =>
      LETV (nu33 8 vx.toNatClampNeg : Int32) fun y36 =>
      LETV (y36 - r4 : Int32) fun t37 =>
      LETV (va_up nu33 8 (upd (nu33 8) vx.toNatClampNeg t37) : Nat → Nat → Int32) fun nu38 =>
      LETV (nu38 8 r3.toNatClampNeg : Int32) fun y41 =>
      LETV (y41 + r4 : Int32) fun t42 =>
      LETV (va_up nu38 8 (upd (nu38 8) r3.toNatClampNeg t42) : Nat → Nat → Int32) fun nu43 =>
      LETV (F_sm_setLetter5 nu43 (vk : Int32) (vx : Int32) : Nat → Nat → Int32) fun xi46 =>
      LETV (F_sm_setLetter6 xi46 (vk : Int32) (r4 : Int32) : Nat → Nat → Int32) fun xi48 =>
      LETV (F_sm_letterOf xi48 (vk : Int32) (7 : Int32) : Int32) fun r50 =>
      LETV (r50 + 1 : Int32) fun t51 =>
      LETV (F_sm_setLetter7 xi48 (vk : Int32) (t51 : Int32) : Nat → Nat → Int32) fun xi52 =>
      LETV (xi52 0 14 : Int32) fun y54 =>
      LETV (F_sm_setLetter8 xi52 (vk : Int32) (y54 : Int32) : Nat → Nat → Int32) fun xi55 =>
      LETV (F_sm_letterOf xi55 (vk : Int32) (1 : Int32) : Int32) fun r57 =>
      if vx = r57 then (
        LETV (F_sm_setLetter9 xi55 (vk : Int32) (1 : Int32) : Nat → Nat → Int32) fun xi61 =>
        xi61
      ) else (
        LETV (F_sm_setLetter9 xi55 (vk : Int32) (0 : Int32) : Nat → Nat → Int32) fun xi59 =>
        xi59
      )
    ) else (
      LETV (t2 + 5 : Int32) fun t63 =>
      LETV (t63 + v6_83 : Int32) fun t64 =>
      LETV (nu83_ 8 v6_83.toNatClampNeg : Int32) fun y65 =>
      LETV (va_up nu83_ 14 (upd (nu83_ 14) t64.toNatClampNeg y65) : Nat → Nat → Int32) fun nu67 =>
      LETV ((v6_83 + 1) : Int32) fun w71 =>
      L_sm_sellTo_83_0 r3 r4 t2 vk vx y1 n (w71 : Int32) nu67
    )
def F_sm_sellTo (mu : Nat → Nat → Int32) (vk : Int32) (vx : Int32) : Nat → Nat → Int32 :=
  LETV (mu 0 17 : Int32) fun y1 =>
  LETV (12 * y1 : Int32) fun t2 =>
  LETV (F_sm_letterOf5 mu (vk : Int32) : Int32) fun r3 =>
  LETV (F_sm_priceOf mu (vk : Int32) : Int32) fun r4 =>
  LETV (va_up mu 14 (upd (mu 14) t2.toNatClampNeg vk) : Nat → Nat → Int32) fun nu6 =>
  LETV (t2 + 1 : Int32) fun t9 =>
  LETV (va_up nu6 14 (upd (nu6 14) t9.toNatClampNeg r3) : Nat → Nat → Int32) fun nu11 =>
  LETV (t2 + 2 : Int32) fun t14 =>
  LETV (F_sm_letterOf nu11 (vk : Int32) (6 : Int32) : Int32) fun r15 =>
  LETV (va_up nu11 14 (upd (nu11 14) t14.toNatClampNeg r15) : Nat → Nat → Int32) fun nu17 =>
  LETV (t2 + 3 : Int32) fun t20 =>
  LETV (F_sm_letterOf nu17 (vk : Int32) (8 : Int32) : Int32) fun r21 =>
  LETV (va_up nu17 14 (upd (nu17 14) t20.toNatClampNeg r21) : Nat → Nat → Int32) fun nu23 =>
  LETV (t2 + 4 : Int32) fun t26 =>
  LETV (va_up nu23 14 (upd (nu23 14) t26.toNatClampNeg r4) : Nat → Nat → Int32) fun nu28 =>
  L_sm_sellTo_83_0 r3 r4 t2 vk vx y1 10 (0 : Int32) nu28
def F_sm_askedLetter (mu : Nat → Nat → Int32) (vk : Int32) : Int32 × (Nat → Nat → Int32) :=
  if vk ≥ (0 : Int32) then (
    LETV (mu 0 15 : Int32) fun y2 =>
    if vk < y2 then (
      ((0 : Int32), mu)
    ) else (
      LETP (F_sm_meet mu (2 : Int32)) fun r5 xi5 =>
      ((r5 : Int32), xi5)
    )
  ) else (
    (((-1) : Int32), mu)
  )
def F_qm_sell (mu : Nat → Nat → Int32) (vk : Int32) (vx : Int32) : Int32 × (Nat → Nat → Int32) :=
  if vk < (0 : Int32) then (
    (((-1) : Int32), mu)
  ) else (
    if F_sm_isOne mu (vx : Int32) = 1 then (
      LETP (F_sm_askedLetter mu (vk : Int32)) fun r3 xi3 =>
      if r3 = 0 then (
        LETV (F_sm_canSell mu (vk : Int32) : Int32) fun r5 =>
        if F_sm_has (r5 : Int32) (vx : Int32) = 1 then (
          LETV (mu 0 17 : Int32) fun y7 =>
          if y7 = (40 : Int32) then (
            (((-2) : Int32), mu)
          ) else (
            LETV (F_sm_priceOf mu (vk : Int32) : Int32) fun r9 =>
            LETV (F_sm_sellTo mu (vk : Int32) (vx : Int32) : Nat → Nat → Int32) fun xi11 =>
            LETV (F_sm_isRead xi11 (vk : Int32) : Int32) fun r13 =>
            if r13 = (0 : Int32) then (
              LETV (r9 + 0 : Int32) fun t15 =>
              ((t15 : Int32), xi11)
            ) else (
              LETV (r9 + 1000 : Int32) fun t16 =>
              ((t16 : Int32), xi11)
            )
          )
        ) else (
          (((-4) : Int32), mu)
        )
      ) else (
        ((r3 : Int32), xi3)
      )
    ) else (
      (((-1) : Int32), mu)
    )
  )
def F_qm_days (mu : Nat → Nat → Int32) (vn : Int32) : Int32 × (Nat → Nat → Int32) :=
  if F_sm_in (vn : Int32) (0 : Int32) (20 : Int32) = 1 then (
    LETV (mu 0 14 : Int32) fun y2 =>
    LETV (y2 + vn : Int32) fun t3 =>
    if t3 ≤ (99 : Int32) then (
      LETV (y2 + vn : Int32) fun t5 =>
      LETV (va_up mu 0 (upd (mu 0) 14 t5) : Nat → Nat → Int32) fun nu6 =>
      ((t5 : Int32), nu6)
    ) else (
      (((-2) : Int32), mu)
    )
  ) else (
    (((-1) : Int32), mu)
  )
def F_qm_where (mu : Nat → Nat → Int32) (vk : Int32) : Int32 × (Nat → Nat → Int32) :=
  LETP (F_sm_askedLetter mu (vk : Int32)) fun r1 xi1 =>
  if r1 = 0 then (
    LETV (F_sm_letterOf mu (vk : Int32) (6 : Int32) : Int32) fun r3 =>
    LETV (F_sm_letterOf5 mu (vk : Int32) : Int32) fun r4 =>
    LETP (F_sm_ask mu (r3 : Int32) (r4 : Int32)) fun r5 xi5 =>
    ((r5 : Int32), xi5)
  ) else (
    ((r1 : Int32), xi1)
  )
def F_sm_letterTells (mu : Nat → Nat → Int32) (vk : Int32) (vw : Int32) : Int32 :=
  if vw = (0 : Int32) then (
    LETV (F_sm_letterOf mu (vk : Int32) (0 : Int32) : Int32) fun r9 =>
    (r9 : Int32)
  ) else (
    if vw = (1 : Int32) then (
      LETV (F_sm_letterOf mu (vk : Int32) (1 : Int32) : Int32) fun r8 =>
      (r8 : Int32)
    ) else (
      if vw = (2 : Int32) then (
        LETV (F_sm_worthIn mu (vk : Int32) (0 : Int32) : Int32) fun r7 =>
        (r7 : Int32)
      ) else (
        if vw = (3 : Int32) then (
          LETV (F_sm_letterOf mu (vk : Int32) (9 : Int32) : Int32) fun r6 =>
          (r6 : Int32)
        ) else (
          LETV (F_sm_letterOf mu (vk : Int32) (7 : Int32) : Int32) fun r5 =>
          (r5 : Int32)
        )
      )
    )
  )
def F_qm_letter (mu : Nat → Nat → Int32) (vk : Int32) (vw : Int32) : Int32 × (Nat → Nat → Int32) :=
  if F_sm_in (vw : Int32) (0 : Int32) (4 : Int32) = 1 then (
    LETP (F_sm_askedLetter mu (vk : Int32)) fun r2 xi2 =>
    if r2 = 0 then (
      LETV (F_sm_letterTells mu (vk : Int32) (vw : Int32) : Int32) fun r4 =>
      LETP (F_sm_ask mu (r4 : Int32) (1 : Int32)) fun r5 xi5 =>
      ((r5 : Int32), xi5)
    ) else (
      ((r2 : Int32), xi2)
    )
  ) else (
    (((-1) : Int32), mu)
  )
def F_qm_can (mu : Nat → Nat → Int32) (vk : Int32) : Int32 × (Nat → Nat → Int32) :=
  LETP (F_sm_askedLetter mu (vk : Int32)) fun r1 xi1 =>
  if r1 = 0 then (
    LETV (F_sm_canSell mu (vk : Int32) : Int32) fun r3 =>
    ((r3 : Int32), mu)
  ) else (
    ((r1 : Int32), xi1)
  )
