theorem mw_4_25 : (Cond.constant RX5 121 2147483647 : Cond) ∈ lw_good := lg_at 4 25 rfl rfl
theorem mw_4_9 : (Cond.code yX5_lookAt cX5_lookAt 3 none : Cond) ∈ lw_good := lg_at 4 9 rfl rfl
theorem mw_4_6 : (Cond.methodLink RX5 102 yX5_lookAt : Cond) ∈ lw_good := lg_at 4 6 rfl rfl
theorem mw_4_7 : (Cond.instanceMethod yX5_lookAt : Cond) ∈ lw_good := lg_at 4 7 rfl rfl
theorem mw_4_8 : (Cond.selects RX5 yX5_lookAt yX5_lookAt : Cond) ∈ lw_good := lg_at 4 8 rfl rfl
theorem mw_4_24 : (Cond.code yX5_walkAll cX5_walkAll 2 none : Cond) ∈ lw_good := lg_at 4 24 rfl rfl
theorem mw_4_21 : (Cond.methodLink RX5 106 yX5_walkAll : Cond) ∈ lw_good := lg_at 4 21 rfl rfl
theorem mw_4_23 : (Cond.instanceMethod yX5_walkAll : Cond) ∈ lw_good := lg_at 4 23 rfl rfl
theorem mw_0_12 : (Cond.selects RX5 yX5_walkAll yX5_walkAll : Cond) ∈ lw_good := lg_at 0 12 rfl rfl
theorem mw_4_106 : (Cond.code yX5_comesFrom cX5_comesFrom 9 (some .boolean) : Cond) ∈ lw_good := lg_at 4 106 rfl rfl
theorem mw_4_103 : (Cond.methodLink RX5 168 yX5_comesFrom : Cond) ∈ lw_good := lg_at 4 103 rfl rfl
theorem mw_4_105 : (Cond.instanceMethod yX5_comesFrom : Cond) ∈ lw_good := lg_at 4 105 rfl rfl
theorem mw_0_18 : (Cond.selects RX5 yX5_comesFrom yX5_comesFrom : Cond) ∈ lw_good := lg_at 0 18 rfl rfl
theorem mw_2_164 : (Cond.fieldLink RX11 51 "DearLetters" "routes" "LDearLetters$Routes;" : Cond) ∈ lw_good := lg_at 2 164 rfl rfl
theorem mw_4_102 : (Cond.code yX5_comesUnder cX5_comesUnder 3 (some .boolean) : Cond) ∈ lw_good := lg_at 4 102 rfl rfl
theorem mw_4_99 : (Cond.methodLink RX11 383 yX5_comesUnder : Cond) ∈ lw_good := lg_at 4 99 rfl rfl
theorem mw_4_100 : (Cond.instanceMethod yX5_comesUnder : Cond) ∈ lw_good := lg_at 4 100 rfl rfl
theorem mw_4_101 : (Cond.selects RX5 yX5_comesUnder yX5_comesUnder : Cond) ∈ lw_good := lg_at 4 101 rfl rfl
theorem tX_53_s {mu : Nat → Nat → Int32} (ok : okR loX hiX mu) {nu : Nat → Nat → Int32} {v : Int32} (f : Nat) (hn : va_up mu 53 (upd (mu 53) f v) = nu) : okR loX hiX nu := by
  subst hn
  exact okR_up ok 53 f v (tI_lo v) (tI_hi v)
theorem lb_X5_walkAll_0 : dl_ck (cX5_walkAll.data.toList.drop 0) [42, 3, 181, 0, 110, 42, 3, 181, 0, 113, 42, 2, 181, 0, 116, 42, 18, 121, 181, 0, 122, 42, 180, 0, 24, 3, 181, 0, 125, 42, 180, 0] = true := by decide +kernel
theorem lb_X5_walkAll_1 : dl_ck (cX5_walkAll.data.toList.drop 32) [28, 3, 181, 0, 125, 42, 180, 0, 18, 3, 42, 180, 0, 75, 79, 42, 43, 3, 4, 42, 180, 0, 75, 120, 42, 180, 0, 81, 182, 0, 129, 177] = true := by decide +kernel
theorem dX5_walkAll_0 : decode cX5_walkAll 0 = .ok (.aload_n 0, 1) := dx_42 (dl_at 0 0 lb_X5_walkAll_0 rfl)
theorem dX5_walkAll_1 : decode cX5_walkAll 1 = .ok (.iconst 0, 1) := dx_3 (dl_at 0 1 lb_X5_walkAll_0 rfl)
theorem dX5_walkAll_2 : decode cX5_walkAll 2 = .ok (.putfield 110, 3) := dx_181 (a := 0) (b := 110) (dl_at 0 2 lb_X5_walkAll_0 rfl) (dl_at 0 3 lb_X5_walkAll_0 rfl) (dl_at 0 4 lb_X5_walkAll_0 rfl) rfl
theorem dX5_walkAll_5 : decode cX5_walkAll 5 = .ok (.aload_n 0, 1) := dx_42 (dl_at 0 5 lb_X5_walkAll_0 rfl)
theorem dX5_walkAll_6 : decode cX5_walkAll 6 = .ok (.iconst 0, 1) := dx_3 (dl_at 0 6 lb_X5_walkAll_0 rfl)
theorem dX5_walkAll_7 : decode cX5_walkAll 7 = .ok (.putfield 113, 3) := dx_181 (a := 0) (b := 113) (dl_at 0 7 lb_X5_walkAll_0 rfl) (dl_at 0 8 lb_X5_walkAll_0 rfl) (dl_at 0 9 lb_X5_walkAll_0 rfl) rfl
theorem dX5_walkAll_10 : decode cX5_walkAll 10 = .ok (.aload_n 0, 1) := dx_42 (dl_at 0 10 lb_X5_walkAll_0 rfl)
theorem dX5_walkAll_11 : decode cX5_walkAll 11 = .ok (.iconst (-1), 1) := dx_2 (dl_at 0 11 lb_X5_walkAll_0 rfl)
theorem dX5_walkAll_12 : decode cX5_walkAll 12 = .ok (.putfield 116, 3) := dx_181 (a := 0) (b := 116) (dl_at 0 12 lb_X5_walkAll_0 rfl) (dl_at 0 13 lb_X5_walkAll_0 rfl) (dl_at 0 14 lb_X5_walkAll_0 rfl) rfl
theorem dX5_walkAll_15 : decode cX5_walkAll 15 = .ok (.aload_n 0, 1) := dx_42 (dl_at 0 15 lb_X5_walkAll_0 rfl)
theorem dX5_walkAll_16 : decode cX5_walkAll 16 = .ok (.ldc 121, 2) := dx_18 (dl_at 0 16 lb_X5_walkAll_0 rfl) (dl_at 0 17 lb_X5_walkAll_0 rfl)
theorem dX5_walkAll_18 : decode cX5_walkAll 18 = .ok (.putfield 122, 3) := dx_181 (a := 0) (b := 122) (dl_at 0 18 lb_X5_walkAll_0 rfl) (dl_at 0 19 lb_X5_walkAll_0 rfl) (dl_at 0 20 lb_X5_walkAll_0 rfl) rfl
theorem dX5_walkAll_21 : decode cX5_walkAll 21 = .ok (.aload_n 0, 1) := dx_42 (dl_at 0 21 lb_X5_walkAll_0 rfl)
theorem dX5_walkAll_22 : decode cX5_walkAll 22 = .ok (.getfield 24, 3) := dx_180 (a := 0) (b := 24) (dl_at 0 22 lb_X5_walkAll_0 rfl) (dl_at 0 23 lb_X5_walkAll_0 rfl) (dl_at 0 24 lb_X5_walkAll_0 rfl) rfl
theorem dX5_walkAll_25 : decode cX5_walkAll 25 = .ok (.iconst 0, 1) := dx_3 (dl_at 0 25 lb_X5_walkAll_0 rfl)
theorem dX5_walkAll_26 : decode cX5_walkAll 26 = .ok (.putfield 125, 3) := dx_181 (a := 0) (b := 125) (dl_at 0 26 lb_X5_walkAll_0 rfl) (dl_at 0 27 lb_X5_walkAll_0 rfl) (dl_at 0 28 lb_X5_walkAll_0 rfl) rfl
theorem dX5_walkAll_29 : decode cX5_walkAll 29 = .ok (.aload_n 0, 1) := dx_42 (dl_at 0 29 lb_X5_walkAll_0 rfl)
theorem dX5_walkAll_30 : decode cX5_walkAll 30 = .ok (.getfield 28, 3) := dx_180 (a := 0) (b := 28) (dl_at 0 30 lb_X5_walkAll_0 rfl) (dl_at 0 31 lb_X5_walkAll_0 rfl) (dl_at 32 0 lb_X5_walkAll_1 rfl) rfl
theorem dX5_walkAll_33 : decode cX5_walkAll 33 = .ok (.iconst 0, 1) := dx_3 (dl_at 32 1 lb_X5_walkAll_1 rfl)
theorem dX5_walkAll_34 : decode cX5_walkAll 34 = .ok (.putfield 125, 3) := dx_181 (a := 0) (b := 125) (dl_at 32 2 lb_X5_walkAll_1 rfl) (dl_at 32 3 lb_X5_walkAll_1 rfl) (dl_at 32 4 lb_X5_walkAll_1 rfl) rfl
theorem dX5_walkAll_37 : decode cX5_walkAll 37 = .ok (.aload_n 0, 1) := dx_42 (dl_at 32 5 lb_X5_walkAll_1 rfl)
theorem dX5_walkAll_38 : decode cX5_walkAll 38 = .ok (.getfield 18, 3) := dx_180 (a := 0) (b := 18) (dl_at 32 6 lb_X5_walkAll_1 rfl) (dl_at 32 7 lb_X5_walkAll_1 rfl) (dl_at 32 8 lb_X5_walkAll_1 rfl) rfl
theorem dX5_walkAll_41 : decode cX5_walkAll 41 = .ok (.iconst 0, 1) := dx_3 (dl_at 32 9 lb_X5_walkAll_1 rfl)
theorem dX5_walkAll_42 : decode cX5_walkAll 42 = .ok (.aload_n 0, 1) := dx_42 (dl_at 32 10 lb_X5_walkAll_1 rfl)
theorem dX5_walkAll_43 : decode cX5_walkAll 43 = .ok (.getfield 75, 3) := dx_180 (a := 0) (b := 75) (dl_at 32 11 lb_X5_walkAll_1 rfl) (dl_at 32 12 lb_X5_walkAll_1 rfl) (dl_at 32 13 lb_X5_walkAll_1 rfl) rfl
theorem dX5_walkAll_46 : decode cX5_walkAll 46 = .ok (.iastore, 1) := dx_79 (dl_at 32 14 lb_X5_walkAll_1 rfl)
theorem dX5_walkAll_47 : decode cX5_walkAll 47 = .ok (.aload_n 0, 1) := dx_42 (dl_at 32 15 lb_X5_walkAll_1 rfl)
theorem dX5_walkAll_48 : decode cX5_walkAll 48 = .ok (.aload_n 1, 1) := dx_43 (dl_at 32 16 lb_X5_walkAll_1 rfl)
theorem dX5_walkAll_49 : decode cX5_walkAll 49 = .ok (.iconst 0, 1) := dx_3 (dl_at 32 17 lb_X5_walkAll_1 rfl)
theorem dX5_walkAll_50 : decode cX5_walkAll 50 = .ok (.iconst 1, 1) := dx_4 (dl_at 32 18 lb_X5_walkAll_1 rfl)
theorem dX5_walkAll_51 : decode cX5_walkAll 51 = .ok (.aload_n 0, 1) := dx_42 (dl_at 32 19 lb_X5_walkAll_1 rfl)
theorem dX5_walkAll_52 : decode cX5_walkAll 52 = .ok (.getfield 75, 3) := dx_180 (a := 0) (b := 75) (dl_at 32 20 lb_X5_walkAll_1 rfl) (dl_at 32 21 lb_X5_walkAll_1 rfl) (dl_at 32 22 lb_X5_walkAll_1 rfl) rfl
theorem dX5_walkAll_55 : decode cX5_walkAll 55 = .ok (.ishl, 1) := dx_120 (dl_at 32 23 lb_X5_walkAll_1 rfl)
theorem dX5_walkAll_56 : decode cX5_walkAll 56 = .ok (.aload_n 0, 1) := dx_42 (dl_at 32 24 lb_X5_walkAll_1 rfl)
theorem dX5_walkAll_57 : decode cX5_walkAll 57 = .ok (.getfield 81, 3) := dx_180 (a := 0) (b := 81) (dl_at 32 25 lb_X5_walkAll_1 rfl) (dl_at 32 26 lb_X5_walkAll_1 rfl) (dl_at 32 27 lb_X5_walkAll_1 rfl) rfl
theorem dX5_walkAll_60 : decode cX5_walkAll 60 = .ok (.invokevirtual 129, 3) := dx_182 (a := 0) (b := 129) (dl_at 32 28 lb_X5_walkAll_1 rfl) (dl_at 32 29 lb_X5_walkAll_1 rfl) (dl_at 32 30 lb_X5_walkAll_1 rfl) rfl
theorem dX5_walkAll_63 : decode cX5_walkAll 63 = .ok (.return_, 1) := dx_177 (dl_at 32 31 lb_X5_walkAll_1 rfl)
theorem lb_X5_walkOf_0 : dl_ck (cX5_walkOf.data.toList.drop 0) [42, 43, 44, 182, 0, 102, 42, 43, 182, 0, 106, 177] = true := by decide +kernel
theorem dX5_walkOf_0 : decode cX5_walkOf 0 = .ok (.aload_n 0, 1) := dx_42 (dl_at 0 0 lb_X5_walkOf_0 rfl)
theorem dX5_walkOf_1 : decode cX5_walkOf 1 = .ok (.aload_n 1, 1) := dx_43 (dl_at 0 1 lb_X5_walkOf_0 rfl)
theorem dX5_walkOf_2 : decode cX5_walkOf 2 = .ok (.aload_n 2, 1) := dx_44 (dl_at 0 2 lb_X5_walkOf_0 rfl)
theorem dX5_walkOf_3 : decode cX5_walkOf 3 = .ok (.invokevirtual 102, 3) := dx_182 (a := 0) (b := 102) (dl_at 0 3 lb_X5_walkOf_0 rfl) (dl_at 0 4 lb_X5_walkOf_0 rfl) (dl_at 0 5 lb_X5_walkOf_0 rfl) rfl
theorem dX5_walkOf_6 : decode cX5_walkOf 6 = .ok (.aload_n 0, 1) := dx_42 (dl_at 0 6 lb_X5_walkOf_0 rfl)
theorem dX5_walkOf_7 : decode cX5_walkOf 7 = .ok (.aload_n 1, 1) := dx_43 (dl_at 0 7 lb_X5_walkOf_0 rfl)
theorem dX5_walkOf_8 : decode cX5_walkOf 8 = .ok (.invokevirtual 106, 3) := dx_182 (a := 0) (b := 106) (dl_at 0 8 lb_X5_walkOf_0 rfl) (dl_at 0 9 lb_X5_walkOf_0 rfl) (dl_at 0 10 lb_X5_walkOf_0 rfl) rfl
theorem dX5_walkOf_11 : decode cX5_walkOf 11 = .ok (.return_, 1) := dx_177 (dl_at 0 11 lb_X5_walkOf_0 rfl)
theorem lb_X5_walkNew_0 : dl_ck (cX5_walkNew.data.toList.drop 0) [42, 43, 28, 29, 3, 182, 0, 43, 42, 3, 181, 0, 62, 42, 3, 181, 0, 68, 42, 3, 181, 0, 72, 42, 43, 182, 0, 106, 177] = true := by decide +kernel
theorem dX5_walkNew_0 : decode cX5_walkNew 0 = .ok (.aload_n 0, 1) := dx_42 (dl_at 0 0 lb_X5_walkNew_0 rfl)
theorem dX5_walkNew_1 : decode cX5_walkNew 1 = .ok (.aload_n 1, 1) := dx_43 (dl_at 0 1 lb_X5_walkNew_0 rfl)
theorem dX5_walkNew_2 : decode cX5_walkNew 2 = .ok (.iload_n 2, 1) := dx_28 (dl_at 0 2 lb_X5_walkNew_0 rfl)
theorem dX5_walkNew_3 : decode cX5_walkNew 3 = .ok (.iload_n 3, 1) := dx_29 (dl_at 0 3 lb_X5_walkNew_0 rfl)
theorem dX5_walkNew_4 : decode cX5_walkNew 4 = .ok (.iconst 0, 1) := dx_3 (dl_at 0 4 lb_X5_walkNew_0 rfl)
theorem dX5_walkNew_5 : decode cX5_walkNew 5 = .ok (.invokevirtual 43, 3) := dx_182 (a := 0) (b := 43) (dl_at 0 5 lb_X5_walkNew_0 rfl) (dl_at 0 6 lb_X5_walkNew_0 rfl) (dl_at 0 7 lb_X5_walkNew_0 rfl) rfl
theorem dX5_walkNew_8 : decode cX5_walkNew 8 = .ok (.aload_n 0, 1) := dx_42 (dl_at 0 8 lb_X5_walkNew_0 rfl)
theorem dX5_walkNew_9 : decode cX5_walkNew 9 = .ok (.iconst 0, 1) := dx_3 (dl_at 0 9 lb_X5_walkNew_0 rfl)
theorem dX5_walkNew_10 : decode cX5_walkNew 10 = .ok (.putfield 62, 3) := dx_181 (a := 0) (b := 62) (dl_at 0 10 lb_X5_walkNew_0 rfl) (dl_at 0 11 lb_X5_walkNew_0 rfl) (dl_at 0 12 lb_X5_walkNew_0 rfl) rfl
theorem dX5_walkNew_13 : decode cX5_walkNew 13 = .ok (.aload_n 0, 1) := dx_42 (dl_at 0 13 lb_X5_walkNew_0 rfl)
theorem dX5_walkNew_14 : decode cX5_walkNew 14 = .ok (.iconst 0, 1) := dx_3 (dl_at 0 14 lb_X5_walkNew_0 rfl)
theorem dX5_walkNew_15 : decode cX5_walkNew 15 = .ok (.putfield 68, 3) := dx_181 (a := 0) (b := 68) (dl_at 0 15 lb_X5_walkNew_0 rfl) (dl_at 0 16 lb_X5_walkNew_0 rfl) (dl_at 0 17 lb_X5_walkNew_0 rfl) rfl
theorem dX5_walkNew_18 : decode cX5_walkNew 18 = .ok (.aload_n 0, 1) := dx_42 (dl_at 0 18 lb_X5_walkNew_0 rfl)
theorem dX5_walkNew_19 : decode cX5_walkNew 19 = .ok (.iconst 0, 1) := dx_3 (dl_at 0 19 lb_X5_walkNew_0 rfl)
theorem dX5_walkNew_20 : decode cX5_walkNew 20 = .ok (.putfield 72, 3) := dx_181 (a := 0) (b := 72) (dl_at 0 20 lb_X5_walkNew_0 rfl) (dl_at 0 21 lb_X5_walkNew_0 rfl) (dl_at 0 22 lb_X5_walkNew_0 rfl) rfl
theorem dX5_walkNew_23 : decode cX5_walkNew 23 = .ok (.aload_n 0, 1) := dx_42 (dl_at 0 23 lb_X5_walkNew_0 rfl)
theorem dX5_walkNew_24 : decode cX5_walkNew 24 = .ok (.aload_n 1, 1) := dx_43 (dl_at 0 24 lb_X5_walkNew_0 rfl)
theorem dX5_walkNew_25 : decode cX5_walkNew 25 = .ok (.invokevirtual 106, 3) := dx_182 (a := 0) (b := 106) (dl_at 0 25 lb_X5_walkNew_0 rfl) (dl_at 0 26 lb_X5_walkNew_0 rfl) (dl_at 0 27 lb_X5_walkNew_0 rfl) rfl
theorem dX5_walkNew_28 : decode cX5_walkNew 28 = .ok (.return_, 1) := dx_177 (dl_at 0 28 lb_X5_walkNew_0 rfl)
theorem lb_X5_walkWithLoan_0 : dl_ck (cX5_walkWithLoan.data.toList.drop 0) [42, 180, 0, 15, 28, 46, 54, 4, 42, 180, 0, 15, 28, 29, 79, 42, 43, 182, 0, 106, 42, 180, 0, 15, 28, 21, 4, 79, 177] = true := by decide +kernel
theorem dX5_walkWithLoan_0 : decode cX5_walkWithLoan 0 = .ok (.aload_n 0, 1) := dx_42 (dl_at 0 0 lb_X5_walkWithLoan_0 rfl)
theorem dX5_walkWithLoan_1 : decode cX5_walkWithLoan 1 = .ok (.getfield 15, 3) := dx_180 (a := 0) (b := 15) (dl_at 0 1 lb_X5_walkWithLoan_0 rfl) (dl_at 0 2 lb_X5_walkWithLoan_0 rfl) (dl_at 0 3 lb_X5_walkWithLoan_0 rfl) rfl
theorem dX5_walkWithLoan_4 : decode cX5_walkWithLoan 4 = .ok (.iload_n 2, 1) := dx_28 (dl_at 0 4 lb_X5_walkWithLoan_0 rfl)
theorem dX5_walkWithLoan_5 : decode cX5_walkWithLoan 5 = .ok (.iaload, 1) := dx_46 (dl_at 0 5 lb_X5_walkWithLoan_0 rfl)
theorem dX5_walkWithLoan_6 : decode cX5_walkWithLoan 6 = .ok (.istore 4, 2) := dx_54 (dl_at 0 6 lb_X5_walkWithLoan_0 rfl) (dl_at 0 7 lb_X5_walkWithLoan_0 rfl)
theorem dX5_walkWithLoan_8 : decode cX5_walkWithLoan 8 = .ok (.aload_n 0, 1) := dx_42 (dl_at 0 8 lb_X5_walkWithLoan_0 rfl)
theorem dX5_walkWithLoan_9 : decode cX5_walkWithLoan 9 = .ok (.getfield 15, 3) := dx_180 (a := 0) (b := 15) (dl_at 0 9 lb_X5_walkWithLoan_0 rfl) (dl_at 0 10 lb_X5_walkWithLoan_0 rfl) (dl_at 0 11 lb_X5_walkWithLoan_0 rfl) rfl
theorem dX5_walkWithLoan_12 : decode cX5_walkWithLoan 12 = .ok (.iload_n 2, 1) := dx_28 (dl_at 0 12 lb_X5_walkWithLoan_0 rfl)
theorem dX5_walkWithLoan_13 : decode cX5_walkWithLoan 13 = .ok (.iload_n 3, 1) := dx_29 (dl_at 0 13 lb_X5_walkWithLoan_0 rfl)
theorem dX5_walkWithLoan_14 : decode cX5_walkWithLoan 14 = .ok (.iastore, 1) := dx_79 (dl_at 0 14 lb_X5_walkWithLoan_0 rfl)
theorem dX5_walkWithLoan_15 : decode cX5_walkWithLoan 15 = .ok (.aload_n 0, 1) := dx_42 (dl_at 0 15 lb_X5_walkWithLoan_0 rfl)
theorem dX5_walkWithLoan_16 : decode cX5_walkWithLoan 16 = .ok (.aload_n 1, 1) := dx_43 (dl_at 0 16 lb_X5_walkWithLoan_0 rfl)
theorem dX5_walkWithLoan_17 : decode cX5_walkWithLoan 17 = .ok (.invokevirtual 106, 3) := dx_182 (a := 0) (b := 106) (dl_at 0 17 lb_X5_walkWithLoan_0 rfl) (dl_at 0 18 lb_X5_walkWithLoan_0 rfl) (dl_at 0 19 lb_X5_walkWithLoan_0 rfl) rfl
theorem dX5_walkWithLoan_20 : decode cX5_walkWithLoan 20 = .ok (.aload_n 0, 1) := dx_42 (dl_at 0 20 lb_X5_walkWithLoan_0 rfl)
theorem dX5_walkWithLoan_21 : decode cX5_walkWithLoan 21 = .ok (.getfield 15, 3) := dx_180 (a := 0) (b := 15) (dl_at 0 21 lb_X5_walkWithLoan_0 rfl) (dl_at 0 22 lb_X5_walkWithLoan_0 rfl) (dl_at 0 23 lb_X5_walkWithLoan_0 rfl) rfl
theorem dX5_walkWithLoan_24 : decode cX5_walkWithLoan 24 = .ok (.iload_n 2, 1) := dx_28 (dl_at 0 24 lb_X5_walkWithLoan_0 rfl)
theorem dX5_walkWithLoan_25 : decode cX5_walkWithLoan 25 = .ok (.iload 4, 2) := dx_21 (dl_at 0 25 lb_X5_walkWithLoan_0 rfl) (dl_at 0 26 lb_X5_walkWithLoan_0 rfl)
theorem dX5_walkWithLoan_27 : decode cX5_walkWithLoan 27 = .ok (.iastore, 1) := dx_79 (dl_at 0 27 lb_X5_walkWithLoan_0 rfl)
theorem dX5_walkWithLoan_28 : decode cX5_walkWithLoan 28 = .ok (.return_, 1) := dx_177 (dl_at 0 28 lb_X5_walkWithLoan_0 rfl)
theorem lb_X5_comesFrom_0 : dl_ck (cX5_comesFrom.data.toList.drop 0) [43, 180, 0, 132, 28, 46, 21, 5, 184, 0, 135, 54, 6, 29, 4, 96, 54, 7, 3, 54, 8, 21, 8, 43, 180, 0, 96, 162, 0, 84, 21, 7] = true := by decide +kernel
theorem lb_X5_comesFrom_1 : dl_ck (cX5_comesFrom.data.toList.drop 32) [16, 7, 162, 0, 77, 42, 43, 28, 21, 8, 21, 4, 21, 6, 182, 0, 138, 154, 0, 6, 167, 0, 53, 21, 8, 42, 180, 0, 78, 160, 0, 21] = true := by decide +kernel
theorem lb_X5_comesFrom_2 : dl_ck (cX5_comesFrom.data.toList.drop 64) [42, 21, 7, 21, 6, 182, 0, 160, 42, 180, 0, 62, 163, 0, 29, 167, 0, 24, 42, 43, 21, 8, 21, 7, 21, 4, 4, 21, 8, 120, 128, 21] = true := by decide +kernel
theorem lb_X5_comesFrom_3 : dl_ck (cX5_comesFrom.data.toList.drop 96) [6, 182, 0, 168, 153, 0, 5, 4, 172, 132, 8, 1, 167, 255, 169, 3, 172] = true := by decide +kernel
theorem dX5_comesFrom_0 : decode cX5_comesFrom 0 = .ok (.aload_n 1, 1) := dx_43 (dl_at 0 0 lb_X5_comesFrom_0 rfl)
theorem dX5_comesFrom_1 : decode cX5_comesFrom 1 = .ok (.getfield 132, 3) := dx_180 (a := 0) (b := 132) (dl_at 0 1 lb_X5_comesFrom_0 rfl) (dl_at 0 2 lb_X5_comesFrom_0 rfl) (dl_at 0 3 lb_X5_comesFrom_0 rfl) rfl
theorem dX5_comesFrom_4 : decode cX5_comesFrom 4 = .ok (.iload_n 2, 1) := dx_28 (dl_at 0 4 lb_X5_comesFrom_0 rfl)
theorem dX5_comesFrom_5 : decode cX5_comesFrom 5 = .ok (.iaload, 1) := dx_46 (dl_at 0 5 lb_X5_comesFrom_0 rfl)
theorem dX5_comesFrom_6 : decode cX5_comesFrom 6 = .ok (.iload 5, 2) := dx_21 (dl_at 0 6 lb_X5_comesFrom_0 rfl) (dl_at 0 7 lb_X5_comesFrom_0 rfl)
theorem dX5_comesFrom_8 : decode cX5_comesFrom 8 = .ok (.invokestatic 135, 3) := dx_184 (a := 0) (b := 135) (dl_at 0 8 lb_X5_comesFrom_0 rfl) (dl_at 0 9 lb_X5_comesFrom_0 rfl) (dl_at 0 10 lb_X5_comesFrom_0 rfl) rfl
theorem dX5_comesFrom_11 : decode cX5_comesFrom 11 = .ok (.istore 6, 2) := dx_54 (dl_at 0 11 lb_X5_comesFrom_0 rfl) (dl_at 0 12 lb_X5_comesFrom_0 rfl)
theorem dX5_comesFrom_13 : decode cX5_comesFrom 13 = .ok (.iload_n 3, 1) := dx_29 (dl_at 0 13 lb_X5_comesFrom_0 rfl)
theorem dX5_comesFrom_14 : decode cX5_comesFrom 14 = .ok (.iconst 1, 1) := dx_4 (dl_at 0 14 lb_X5_comesFrom_0 rfl)
theorem dX5_comesFrom_15 : decode cX5_comesFrom 15 = .ok (.iadd, 1) := dx_96 (dl_at 0 15 lb_X5_comesFrom_0 rfl)
theorem dX5_comesFrom_16 : decode cX5_comesFrom 16 = .ok (.istore 7, 2) := dx_54 (dl_at 0 16 lb_X5_comesFrom_0 rfl) (dl_at 0 17 lb_X5_comesFrom_0 rfl)
theorem dX5_comesFrom_18 : decode cX5_comesFrom 18 = .ok (.iconst 0, 1) := dx_3 (dl_at 0 18 lb_X5_comesFrom_0 rfl)
theorem dX5_comesFrom_19 : decode cX5_comesFrom 19 = .ok (.istore 8, 2) := dx_54 (dl_at 0 19 lb_X5_comesFrom_0 rfl) (dl_at 0 20 lb_X5_comesFrom_0 rfl)
theorem dX5_comesFrom_21 : decode cX5_comesFrom 21 = .ok (.iload 8, 2) := dx_21 (dl_at 0 21 lb_X5_comesFrom_0 rfl) (dl_at 0 22 lb_X5_comesFrom_0 rfl)
theorem dX5_comesFrom_23 : decode cX5_comesFrom 23 = .ok (.aload_n 1, 1) := dx_43 (dl_at 0 23 lb_X5_comesFrom_0 rfl)
theorem dX5_comesFrom_24 : decode cX5_comesFrom 24 = .ok (.getfield 96, 3) := dx_180 (a := 0) (b := 96) (dl_at 0 24 lb_X5_comesFrom_0 rfl) (dl_at 0 25 lb_X5_comesFrom_0 rfl) (dl_at 0 26 lb_X5_comesFrom_0 rfl) rfl
theorem dX5_comesFrom_27 : decode cX5_comesFrom 27 = .ok (.if_icmp .ge 84, 3) := dx_162 (a := 0) (b := 84) (dl_at 0 27 lb_X5_comesFrom_0 rfl) (dl_at 0 28 lb_X5_comesFrom_0 rfl) (dl_at 0 29 lb_X5_comesFrom_0 rfl) sg16_84
theorem dX5_comesFrom_111 : decode cX5_comesFrom 111 = .ok (.iconst 0, 1) := dx_3 (dl_at 96 15 lb_X5_comesFrom_3 rfl)
theorem dX5_comesFrom_112 : decode cX5_comesFrom 112 = .ok (.ireturn, 1) := dx_172 (dl_at 96 16 lb_X5_comesFrom_3 rfl)
theorem dX5_comesFrom_30 : decode cX5_comesFrom 30 = .ok (.iload 7, 2) := dx_21 (dl_at 0 30 lb_X5_comesFrom_0 rfl) (dl_at 0 31 lb_X5_comesFrom_0 rfl)
theorem dX5_comesFrom_32 : decode cX5_comesFrom 32 = .ok (.bipush 7, 2) := dx_16 (dl_at 32 0 lb_X5_comesFrom_1 rfl) (dl_at 32 1 lb_X5_comesFrom_1 rfl) sg8_7
theorem dX5_comesFrom_34 : decode cX5_comesFrom 34 = .ok (.if_icmp .ge 77, 3) := dx_162 (a := 0) (b := 77) (dl_at 32 2 lb_X5_comesFrom_1 rfl) (dl_at 32 3 lb_X5_comesFrom_1 rfl) (dl_at 32 4 lb_X5_comesFrom_1 rfl) sg16_77
theorem dX5_comesFrom_37 : decode cX5_comesFrom 37 = .ok (.aload_n 0, 1) := dx_42 (dl_at 32 5 lb_X5_comesFrom_1 rfl)
theorem dX5_comesFrom_38 : decode cX5_comesFrom 38 = .ok (.aload_n 1, 1) := dx_43 (dl_at 32 6 lb_X5_comesFrom_1 rfl)
theorem dX5_comesFrom_39 : decode cX5_comesFrom 39 = .ok (.iload_n 2, 1) := dx_28 (dl_at 32 7 lb_X5_comesFrom_1 rfl)
theorem dX5_comesFrom_40 : decode cX5_comesFrom 40 = .ok (.iload 8, 2) := dx_21 (dl_at 32 8 lb_X5_comesFrom_1 rfl) (dl_at 32 9 lb_X5_comesFrom_1 rfl)
theorem dX5_comesFrom_42 : decode cX5_comesFrom 42 = .ok (.iload 4, 2) := dx_21 (dl_at 32 10 lb_X5_comesFrom_1 rfl) (dl_at 32 11 lb_X5_comesFrom_1 rfl)
theorem dX5_comesFrom_44 : decode cX5_comesFrom 44 = .ok (.iload 6, 2) := dx_21 (dl_at 32 12 lb_X5_comesFrom_1 rfl) (dl_at 32 13 lb_X5_comesFrom_1 rfl)
theorem dX5_comesFrom_46 : decode cX5_comesFrom 46 = .ok (.invokevirtual 138, 3) := dx_182 (a := 0) (b := 138) (dl_at 32 14 lb_X5_comesFrom_1 rfl) (dl_at 32 15 lb_X5_comesFrom_1 rfl) (dl_at 32 16 lb_X5_comesFrom_1 rfl) rfl
theorem dX5_comesFrom_49 : decode cX5_comesFrom 49 = .ok (.ifCond .ne 6, 3) := dx_154 (a := 0) (b := 6) (dl_at 32 17 lb_X5_comesFrom_1 rfl) (dl_at 32 18 lb_X5_comesFrom_1 rfl) (dl_at 32 19 lb_X5_comesFrom_1 rfl) sg16_6
theorem dX5_comesFrom_55 : decode cX5_comesFrom 55 = .ok (.iload 8, 2) := dx_21 (dl_at 32 23 lb_X5_comesFrom_1 rfl) (dl_at 32 24 lb_X5_comesFrom_1 rfl)
theorem dX5_comesFrom_57 : decode cX5_comesFrom 57 = .ok (.aload_n 0, 1) := dx_42 (dl_at 32 25 lb_X5_comesFrom_1 rfl)
theorem dX5_comesFrom_58 : decode cX5_comesFrom 58 = .ok (.getfield 78, 3) := dx_180 (a := 0) (b := 78) (dl_at 32 26 lb_X5_comesFrom_1 rfl) (dl_at 32 27 lb_X5_comesFrom_1 rfl) (dl_at 32 28 lb_X5_comesFrom_1 rfl) rfl
theorem dX5_comesFrom_61 : decode cX5_comesFrom 61 = .ok (.if_icmp .ne 21, 3) := dx_160 (a := 0) (b := 21) (dl_at 32 29 lb_X5_comesFrom_1 rfl) (dl_at 32 30 lb_X5_comesFrom_1 rfl) (dl_at 32 31 lb_X5_comesFrom_1 rfl) sg16_21
theorem dX5_comesFrom_82 : decode cX5_comesFrom 82 = .ok (.aload_n 0, 1) := dx_42 (dl_at 64 18 lb_X5_comesFrom_2 rfl)
theorem dX5_comesFrom_83 : decode cX5_comesFrom 83 = .ok (.aload_n 1, 1) := dx_43 (dl_at 64 19 lb_X5_comesFrom_2 rfl)
theorem dX5_comesFrom_84 : decode cX5_comesFrom 84 = .ok (.iload 8, 2) := dx_21 (dl_at 64 20 lb_X5_comesFrom_2 rfl) (dl_at 64 21 lb_X5_comesFrom_2 rfl)
theorem dX5_comesFrom_86 : decode cX5_comesFrom 86 = .ok (.iload 7, 2) := dx_21 (dl_at 64 22 lb_X5_comesFrom_2 rfl) (dl_at 64 23 lb_X5_comesFrom_2 rfl)
theorem dX5_comesFrom_88 : decode cX5_comesFrom 88 = .ok (.iload 4, 2) := dx_21 (dl_at 64 24 lb_X5_comesFrom_2 rfl) (dl_at 64 25 lb_X5_comesFrom_2 rfl)
theorem dX5_comesFrom_90 : decode cX5_comesFrom 90 = .ok (.iconst 1, 1) := dx_4 (dl_at 64 26 lb_X5_comesFrom_2 rfl)
theorem dX5_comesFrom_91 : decode cX5_comesFrom 91 = .ok (.iload 8, 2) := dx_21 (dl_at 64 27 lb_X5_comesFrom_2 rfl) (dl_at 64 28 lb_X5_comesFrom_2 rfl)
theorem dX5_comesFrom_93 : decode cX5_comesFrom 93 = .ok (.ishl, 1) := dx_120 (dl_at 64 29 lb_X5_comesFrom_2 rfl)
theorem dX5_comesFrom_94 : decode cX5_comesFrom 94 = .ok (.ior, 1) := dx_128 (dl_at 64 30 lb_X5_comesFrom_2 rfl)
theorem dX5_comesFrom_95 : decode cX5_comesFrom 95 = .ok (.iload 6, 2) := dx_21 (dl_at 64 31 lb_X5_comesFrom_2 rfl) (dl_at 96 0 lb_X5_comesFrom_3 rfl)
theorem dX5_comesFrom_97 : decode cX5_comesFrom 97 = .ok (.invokevirtual 168, 3) := dx_182 (a := 0) (b := 168) (dl_at 96 1 lb_X5_comesFrom_3 rfl) (dl_at 96 2 lb_X5_comesFrom_3 rfl) (dl_at 96 3 lb_X5_comesFrom_3 rfl) rfl
theorem dX5_comesFrom_100 : decode cX5_comesFrom 100 = .ok (.ifCond .eq 5, 3) := dx_153 (a := 0) (b := 5) (dl_at 96 4 lb_X5_comesFrom_3 rfl) (dl_at 96 5 lb_X5_comesFrom_3 rfl) (dl_at 96 6 lb_X5_comesFrom_3 rfl) sg16_5
theorem dX5_comesFrom_105 : decode cX5_comesFrom 105 = .ok (.iinc 8 1, 3) := dx_132 (dl_at 96 9 lb_X5_comesFrom_3 rfl) (dl_at 96 10 lb_X5_comesFrom_3 rfl) (dl_at 96 11 lb_X5_comesFrom_3 rfl) sg8_1
theorem dX5_comesFrom_108 : decode cX5_comesFrom 108 = .ok (.goto (-87), 3) := dx_167 (a := 255) (b := 169) (dl_at 96 12 lb_X5_comesFrom_3 rfl) (dl_at 96 13 lb_X5_comesFrom_3 rfl) (dl_at 96 14 lb_X5_comesFrom_3 rfl) sg16_65449
theorem dX5_comesFrom_103 : decode cX5_comesFrom 103 = .ok (.iconst 1, 1) := dx_4 (dl_at 96 7 lb_X5_comesFrom_3 rfl)
theorem dX5_comesFrom_104 : decode cX5_comesFrom 104 = .ok (.ireturn, 1) := dx_172 (dl_at 96 8 lb_X5_comesFrom_3 rfl)
theorem dX5_comesFrom_64 : decode cX5_comesFrom 64 = .ok (.aload_n 0, 1) := dx_42 (dl_at 64 0 lb_X5_comesFrom_2 rfl)
theorem dX5_comesFrom_65 : decode cX5_comesFrom 65 = .ok (.iload 7, 2) := dx_21 (dl_at 64 1 lb_X5_comesFrom_2 rfl) (dl_at 64 2 lb_X5_comesFrom_2 rfl)
theorem dX5_comesFrom_67 : decode cX5_comesFrom 67 = .ok (.iload 6, 2) := dx_21 (dl_at 64 3 lb_X5_comesFrom_2 rfl) (dl_at 64 4 lb_X5_comesFrom_2 rfl)
theorem dX5_comesFrom_69 : decode cX5_comesFrom 69 = .ok (.invokevirtual 160, 3) := dx_182 (a := 0) (b := 160) (dl_at 64 5 lb_X5_comesFrom_2 rfl) (dl_at 64 6 lb_X5_comesFrom_2 rfl) (dl_at 64 7 lb_X5_comesFrom_2 rfl) rfl
theorem dX5_comesFrom_72 : decode cX5_comesFrom 72 = .ok (.aload_n 0, 1) := dx_42 (dl_at 64 8 lb_X5_comesFrom_2 rfl)
theorem dX5_comesFrom_73 : decode cX5_comesFrom 73 = .ok (.getfield 62, 3) := dx_180 (a := 0) (b := 62) (dl_at 64 9 lb_X5_comesFrom_2 rfl) (dl_at 64 10 lb_X5_comesFrom_2 rfl) (dl_at 64 11 lb_X5_comesFrom_2 rfl) rfl
theorem dX5_comesFrom_76 : decode cX5_comesFrom 76 = .ok (.if_icmp .gt 29, 3) := dx_163 (a := 0) (b := 29) (dl_at 64 12 lb_X5_comesFrom_2 rfl) (dl_at 64 13 lb_X5_comesFrom_2 rfl) (dl_at 64 14 lb_X5_comesFrom_2 rfl) sg16_29
theorem dX5_comesFrom_79 : decode cX5_comesFrom 79 = .ok (.goto 24, 3) := dx_167 (a := 0) (b := 24) (dl_at 64 15 lb_X5_comesFrom_2 rfl) (dl_at 64 16 lb_X5_comesFrom_2 rfl) (dl_at 64 17 lb_X5_comesFrom_2 rfl) sg16_24
theorem dX5_comesFrom_52 : decode cX5_comesFrom 52 = .ok (.goto 53, 3) := dx_167 (a := 0) (b := 53) (dl_at 32 20 lb_X5_comesFrom_1 rfl) (dl_at 32 21 lb_X5_comesFrom_1 rfl) (dl_at 32 22 lb_X5_comesFrom_1 rfl) sg16_53
theorem lb_X5_comesUnder_0 : dl_ck (cX5_comesUnder.data.toList.drop 0) [42, 43, 43, 180, 0, 47, 180, 0, 89, 28, 128, 182, 0, 92, 42, 43, 42, 180, 0, 75, 3, 4, 42, 180, 0, 75, 120, 42, 180, 0, 81, 182] = true := by decide +kernel
theorem lb_X5_comesUnder_1 : dl_ck (cX5_comesUnder.data.toList.drop 32) [0, 168, 172] = true := by decide +kernel
theorem dX5_comesUnder_0 : decode cX5_comesUnder 0 = .ok (.aload_n 0, 1) := dx_42 (dl_at 0 0 lb_X5_comesUnder_0 rfl)
theorem dX5_comesUnder_1 : decode cX5_comesUnder 1 = .ok (.aload_n 1, 1) := dx_43 (dl_at 0 1 lb_X5_comesUnder_0 rfl)
theorem dX5_comesUnder_2 : decode cX5_comesUnder 2 = .ok (.aload_n 1, 1) := dx_43 (dl_at 0 2 lb_X5_comesUnder_0 rfl)
theorem dX5_comesUnder_3 : decode cX5_comesUnder 3 = .ok (.getfield 47, 3) := dx_180 (a := 0) (b := 47) (dl_at 0 3 lb_X5_comesUnder_0 rfl) (dl_at 0 4 lb_X5_comesUnder_0 rfl) (dl_at 0 5 lb_X5_comesUnder_0 rfl) rfl
theorem dX5_comesUnder_6 : decode cX5_comesUnder 6 = .ok (.getfield 89, 3) := dx_180 (a := 0) (b := 89) (dl_at 0 6 lb_X5_comesUnder_0 rfl) (dl_at 0 7 lb_X5_comesUnder_0 rfl) (dl_at 0 8 lb_X5_comesUnder_0 rfl) rfl
theorem dX5_comesUnder_9 : decode cX5_comesUnder 9 = .ok (.iload_n 2, 1) := dx_28 (dl_at 0 9 lb_X5_comesUnder_0 rfl)
theorem dX5_comesUnder_10 : decode cX5_comesUnder 10 = .ok (.ior, 1) := dx_128 (dl_at 0 10 lb_X5_comesUnder_0 rfl)
theorem dX5_comesUnder_11 : decode cX5_comesUnder 11 = .ok (.invokevirtual 92, 3) := dx_182 (a := 0) (b := 92) (dl_at 0 11 lb_X5_comesUnder_0 rfl) (dl_at 0 12 lb_X5_comesUnder_0 rfl) (dl_at 0 13 lb_X5_comesUnder_0 rfl) rfl
theorem dX5_comesUnder_14 : decode cX5_comesUnder 14 = .ok (.aload_n 0, 1) := dx_42 (dl_at 0 14 lb_X5_comesUnder_0 rfl)
theorem dX5_comesUnder_15 : decode cX5_comesUnder 15 = .ok (.aload_n 1, 1) := dx_43 (dl_at 0 15 lb_X5_comesUnder_0 rfl)
theorem dX5_comesUnder_16 : decode cX5_comesUnder 16 = .ok (.aload_n 0, 1) := dx_42 (dl_at 0 16 lb_X5_comesUnder_0 rfl)
theorem dX5_comesUnder_17 : decode cX5_comesUnder 17 = .ok (.getfield 75, 3) := dx_180 (a := 0) (b := 75) (dl_at 0 17 lb_X5_comesUnder_0 rfl) (dl_at 0 18 lb_X5_comesUnder_0 rfl) (dl_at 0 19 lb_X5_comesUnder_0 rfl) rfl
theorem dX5_comesUnder_20 : decode cX5_comesUnder 20 = .ok (.iconst 0, 1) := dx_3 (dl_at 0 20 lb_X5_comesUnder_0 rfl)
theorem dX5_comesUnder_21 : decode cX5_comesUnder 21 = .ok (.iconst 1, 1) := dx_4 (dl_at 0 21 lb_X5_comesUnder_0 rfl)
theorem dX5_comesUnder_22 : decode cX5_comesUnder 22 = .ok (.aload_n 0, 1) := dx_42 (dl_at 0 22 lb_X5_comesUnder_0 rfl)
theorem dX5_comesUnder_23 : decode cX5_comesUnder 23 = .ok (.getfield 75, 3) := dx_180 (a := 0) (b := 75) (dl_at 0 23 lb_X5_comesUnder_0 rfl) (dl_at 0 24 lb_X5_comesUnder_0 rfl) (dl_at 0 25 lb_X5_comesUnder_0 rfl) rfl
theorem dX5_comesUnder_26 : decode cX5_comesUnder 26 = .ok (.ishl, 1) := dx_120 (dl_at 0 26 lb_X5_comesUnder_0 rfl)
theorem dX5_comesUnder_27 : decode cX5_comesUnder 27 = .ok (.aload_n 0, 1) := dx_42 (dl_at 0 27 lb_X5_comesUnder_0 rfl)
theorem dX5_comesUnder_28 : decode cX5_comesUnder 28 = .ok (.getfield 81, 3) := dx_180 (a := 0) (b := 81) (dl_at 0 28 lb_X5_comesUnder_0 rfl) (dl_at 0 29 lb_X5_comesUnder_0 rfl) (dl_at 0 30 lb_X5_comesUnder_0 rfl) rfl
theorem dX5_comesUnder_31 : decode cX5_comesUnder 31 = .ok (.invokevirtual 168, 3) := dx_182 (a := 0) (b := 168) (dl_at 0 31 lb_X5_comesUnder_0 rfl) (dl_at 32 0 lb_X5_comesUnder_1 rfl) (dl_at 32 1 lb_X5_comesUnder_1 rfl) rfl
theorem dX5_comesUnder_34 : decode cX5_comesUnder 34 = .ok (.ireturn, 1) := dx_172 (dl_at 32 2 lb_X5_comesUnder_1 rfl)
theorem lb_X5_isLinked_0 : dl_ck (cX5_isLinked.data.toList.drop 0) [4, 42, 180, 0, 75, 120, 61, 3, 62, 29, 16, 7, 162, 0, 66, 3, 54, 4, 21, 4, 43, 180, 0, 96, 162, 0, 48, 28, 21, 4, 184, 0] = true := by decide +kernel
theorem lb_X5_isLinked_1 : dl_ck (cX5_isLinked.data.toList.drop 32) [146, 153, 0, 33, 21, 4, 42, 180, 0, 75, 159, 0, 14, 43, 180, 0, 132, 21, 4, 46, 6, 159, 0, 13, 28, 42, 180, 0, 9, 21, 4, 46] = true := by decide +kernel
theorem lb_X5_isLinked_2 : dl_ck (cX5_isLinked.data.toList.drop 64) [128, 61, 132, 4, 1, 167, 255, 205, 132, 3, 1, 167, 255, 190, 28, 42, 180, 0, 78, 184, 0, 146, 172] = true := by decide +kernel
theorem dX5_isLinked_0 : decode cX5_isLinked 0 = .ok (.iconst 1, 1) := dx_4 (dl_at 0 0 lb_X5_isLinked_0 rfl)
theorem dX5_isLinked_1 : decode cX5_isLinked 1 = .ok (.aload_n 0, 1) := dx_42 (dl_at 0 1 lb_X5_isLinked_0 rfl)
theorem dX5_isLinked_2 : decode cX5_isLinked 2 = .ok (.getfield 75, 3) := dx_180 (a := 0) (b := 75) (dl_at 0 2 lb_X5_isLinked_0 rfl) (dl_at 0 3 lb_X5_isLinked_0 rfl) (dl_at 0 4 lb_X5_isLinked_0 rfl) rfl
theorem dX5_isLinked_5 : decode cX5_isLinked 5 = .ok (.ishl, 1) := dx_120 (dl_at 0 5 lb_X5_isLinked_0 rfl)
theorem dX5_isLinked_6 : decode cX5_isLinked 6 = .ok (.istore_n 2, 1) := dx_61 (dl_at 0 6 lb_X5_isLinked_0 rfl)
theorem dX5_isLinked_7 : decode cX5_isLinked 7 = .ok (.iconst 0, 1) := dx_3 (dl_at 0 7 lb_X5_isLinked_0 rfl)
theorem dX5_isLinked_8 : decode cX5_isLinked 8 = .ok (.istore_n 3, 1) := dx_62 (dl_at 0 8 lb_X5_isLinked_0 rfl)
theorem dX5_isLinked_9 : decode cX5_isLinked 9 = .ok (.iload_n 3, 1) := dx_29 (dl_at 0 9 lb_X5_isLinked_0 rfl)
theorem dX5_isLinked_10 : decode cX5_isLinked 10 = .ok (.bipush 7, 2) := dx_16 (dl_at 0 10 lb_X5_isLinked_0 rfl) (dl_at 0 11 lb_X5_isLinked_0 rfl) sg8_7
theorem dX5_isLinked_12 : decode cX5_isLinked 12 = .ok (.if_icmp .ge 66, 3) := dx_162 (a := 0) (b := 66) (dl_at 0 12 lb_X5_isLinked_0 rfl) (dl_at 0 13 lb_X5_isLinked_0 rfl) (dl_at 0 14 lb_X5_isLinked_0 rfl) sg16_66
theorem dX5_isLinked_78 : decode cX5_isLinked 78 = .ok (.iload_n 2, 1) := dx_28 (dl_at 64 14 lb_X5_isLinked_2 rfl)
theorem dX5_isLinked_79 : decode cX5_isLinked 79 = .ok (.aload_n 0, 1) := dx_42 (dl_at 64 15 lb_X5_isLinked_2 rfl)
theorem dX5_isLinked_80 : decode cX5_isLinked 80 = .ok (.getfield 78, 3) := dx_180 (a := 0) (b := 78) (dl_at 64 16 lb_X5_isLinked_2 rfl) (dl_at 64 17 lb_X5_isLinked_2 rfl) (dl_at 64 18 lb_X5_isLinked_2 rfl) rfl
theorem dX5_isLinked_83 : decode cX5_isLinked 83 = .ok (.invokestatic 146, 3) := dx_184 (a := 0) (b := 146) (dl_at 64 19 lb_X5_isLinked_2 rfl) (dl_at 64 20 lb_X5_isLinked_2 rfl) (dl_at 64 21 lb_X5_isLinked_2 rfl) rfl
theorem dX5_isLinked_86 : decode cX5_isLinked 86 = .ok (.ireturn, 1) := dx_172 (dl_at 64 22 lb_X5_isLinked_2 rfl)
theorem dX5_isLinked_15 : decode cX5_isLinked 15 = .ok (.iconst 0, 1) := dx_3 (dl_at 0 15 lb_X5_isLinked_0 rfl)
theorem dX5_isLinked_16 : decode cX5_isLinked 16 = .ok (.istore 4, 2) := dx_54 (dl_at 0 16 lb_X5_isLinked_0 rfl) (dl_at 0 17 lb_X5_isLinked_0 rfl)
theorem dX5_isLinked_18 : decode cX5_isLinked 18 = .ok (.iload 4, 2) := dx_21 (dl_at 0 18 lb_X5_isLinked_0 rfl) (dl_at 0 19 lb_X5_isLinked_0 rfl)
theorem dX5_isLinked_20 : decode cX5_isLinked 20 = .ok (.aload_n 1, 1) := dx_43 (dl_at 0 20 lb_X5_isLinked_0 rfl)
theorem dX5_isLinked_21 : decode cX5_isLinked 21 = .ok (.getfield 96, 3) := dx_180 (a := 0) (b := 96) (dl_at 0 21 lb_X5_isLinked_0 rfl) (dl_at 0 22 lb_X5_isLinked_0 rfl) (dl_at 0 23 lb_X5_isLinked_0 rfl) rfl
theorem dX5_isLinked_24 : decode cX5_isLinked 24 = .ok (.if_icmp .ge 48, 3) := dx_162 (a := 0) (b := 48) (dl_at 0 24 lb_X5_isLinked_0 rfl) (dl_at 0 25 lb_X5_isLinked_0 rfl) (dl_at 0 26 lb_X5_isLinked_0 rfl) sg16_48
theorem dX5_isLinked_72 : decode cX5_isLinked 72 = .ok (.iinc 3 1, 3) := dx_132 (dl_at 64 8 lb_X5_isLinked_2 rfl) (dl_at 64 9 lb_X5_isLinked_2 rfl) (dl_at 64 10 lb_X5_isLinked_2 rfl) sg8_1
theorem dX5_isLinked_75 : decode cX5_isLinked 75 = .ok (.goto (-66), 3) := dx_167 (a := 255) (b := 190) (dl_at 64 11 lb_X5_isLinked_2 rfl) (dl_at 64 12 lb_X5_isLinked_2 rfl) (dl_at 64 13 lb_X5_isLinked_2 rfl) sg16_65470
theorem dX5_isLinked_27 : decode cX5_isLinked 27 = .ok (.iload_n 2, 1) := dx_28 (dl_at 0 27 lb_X5_isLinked_0 rfl)
theorem dX5_isLinked_28 : decode cX5_isLinked 28 = .ok (.iload 4, 2) := dx_21 (dl_at 0 28 lb_X5_isLinked_0 rfl) (dl_at 0 29 lb_X5_isLinked_0 rfl)
theorem dX5_isLinked_30 : decode cX5_isLinked 30 = .ok (.invokestatic 146, 3) := dx_184 (a := 0) (b := 146) (dl_at 0 30 lb_X5_isLinked_0 rfl) (dl_at 0 31 lb_X5_isLinked_0 rfl) (dl_at 32 0 lb_X5_isLinked_1 rfl) rfl
theorem dX5_isLinked_33 : decode cX5_isLinked 33 = .ok (.ifCond .eq 33, 3) := dx_153 (a := 0) (b := 33) (dl_at 32 1 lb_X5_isLinked_1 rfl) (dl_at 32 2 lb_X5_isLinked_1 rfl) (dl_at 32 3 lb_X5_isLinked_1 rfl) sg16_33
theorem dX5_isLinked_66 : decode cX5_isLinked 66 = .ok (.iinc 4 1, 3) := dx_132 (dl_at 64 2 lb_X5_isLinked_2 rfl) (dl_at 64 3 lb_X5_isLinked_2 rfl) (dl_at 64 4 lb_X5_isLinked_2 rfl) sg8_1
theorem dX5_isLinked_69 : decode cX5_isLinked 69 = .ok (.goto (-51), 3) := dx_167 (a := 255) (b := 205) (dl_at 64 5 lb_X5_isLinked_2 rfl) (dl_at 64 6 lb_X5_isLinked_2 rfl) (dl_at 64 7 lb_X5_isLinked_2 rfl) sg16_65485
theorem dX5_isLinked_36 : decode cX5_isLinked 36 = .ok (.iload 4, 2) := dx_21 (dl_at 32 4 lb_X5_isLinked_1 rfl) (dl_at 32 5 lb_X5_isLinked_1 rfl)
theorem dX5_isLinked_38 : decode cX5_isLinked 38 = .ok (.aload_n 0, 1) := dx_42 (dl_at 32 6 lb_X5_isLinked_1 rfl)
theorem dX5_isLinked_39 : decode cX5_isLinked 39 = .ok (.getfield 75, 3) := dx_180 (a := 0) (b := 75) (dl_at 32 7 lb_X5_isLinked_1 rfl) (dl_at 32 8 lb_X5_isLinked_1 rfl) (dl_at 32 9 lb_X5_isLinked_1 rfl) rfl
theorem dX5_isLinked_42 : decode cX5_isLinked 42 = .ok (.if_icmp .eq 14, 3) := dx_159 (a := 0) (b := 14) (dl_at 32 10 lb_X5_isLinked_1 rfl) (dl_at 32 11 lb_X5_isLinked_1 rfl) (dl_at 32 12 lb_X5_isLinked_1 rfl) sg16_14
theorem dX5_isLinked_56 : decode cX5_isLinked 56 = .ok (.iload_n 2, 1) := dx_28 (dl_at 32 24 lb_X5_isLinked_1 rfl)
theorem dX5_isLinked_57 : decode cX5_isLinked 57 = .ok (.aload_n 0, 1) := dx_42 (dl_at 32 25 lb_X5_isLinked_1 rfl)
theorem dX5_isLinked_58 : decode cX5_isLinked 58 = .ok (.getfield 9, 3) := dx_180 (a := 0) (b := 9) (dl_at 32 26 lb_X5_isLinked_1 rfl) (dl_at 32 27 lb_X5_isLinked_1 rfl) (dl_at 32 28 lb_X5_isLinked_1 rfl) rfl
theorem dX5_isLinked_61 : decode cX5_isLinked 61 = .ok (.iload 4, 2) := dx_21 (dl_at 32 29 lb_X5_isLinked_1 rfl) (dl_at 32 30 lb_X5_isLinked_1 rfl)
theorem dX5_isLinked_63 : decode cX5_isLinked 63 = .ok (.iaload, 1) := dx_46 (dl_at 32 31 lb_X5_isLinked_1 rfl)
theorem dX5_isLinked_64 : decode cX5_isLinked 64 = .ok (.ior, 1) := dx_128 (dl_at 64 0 lb_X5_isLinked_2 rfl)
theorem dX5_isLinked_65 : decode cX5_isLinked 65 = .ok (.istore_n 2, 1) := dx_61 (dl_at 64 1 lb_X5_isLinked_2 rfl)
theorem dX5_isLinked_45 : decode cX5_isLinked 45 = .ok (.aload_n 1, 1) := dx_43 (dl_at 32 13 lb_X5_isLinked_1 rfl)
theorem dX5_isLinked_46 : decode cX5_isLinked 46 = .ok (.getfield 132, 3) := dx_180 (a := 0) (b := 132) (dl_at 32 14 lb_X5_isLinked_1 rfl) (dl_at 32 15 lb_X5_isLinked_1 rfl) (dl_at 32 16 lb_X5_isLinked_1 rfl) rfl
theorem dX5_isLinked_49 : decode cX5_isLinked 49 = .ok (.iload 4, 2) := dx_21 (dl_at 32 17 lb_X5_isLinked_1 rfl) (dl_at 32 18 lb_X5_isLinked_1 rfl)
theorem dX5_isLinked_51 : decode cX5_isLinked 51 = .ok (.iaload, 1) := dx_46 (dl_at 32 19 lb_X5_isLinked_1 rfl)
theorem dX5_isLinked_52 : decode cX5_isLinked 52 = .ok (.iconst 3, 1) := dx_6 (dl_at 32 20 lb_X5_isLinked_1 rfl)
theorem dX5_isLinked_53 : decode cX5_isLinked 53 = .ok (.if_icmp .eq 13, 3) := dx_159 (a := 0) (b := 13) (dl_at 32 21 lb_X5_isLinked_1 rfl) (dl_at 32 22 lb_X5_isLinked_1 rfl) (dl_at 32 23 lb_X5_isLinked_1 rfl) sg16_13
theorem lb_X11_leastBlock_0 : dl_ck (cX11_leastBlock.data.toList.drop 0) [3, 62, 29, 4, 42, 180, 0, 30, 180, 0, 173, 120, 162, 0, 42, 29, 27, 2, 130, 126, 154, 0, 28, 29, 184, 1, 50, 28, 160, 0, 20, 42] = true := by decide +kernel
theorem lb_X11_leastBlock_1 : dl_ck (cX11_leastBlock.data.toList.drop 32) [180, 0, 51, 42, 180, 0, 30, 29, 182, 1, 127, 154, 0, 5, 29, 172, 132, 3, 1, 167, 255, 207, 16, 247, 172] = true := by decide +kernel
theorem dX11_leastBlock_0 : decode cX11_leastBlock 0 = .ok (.iconst 0, 1) := dx_3 (dl_at 0 0 lb_X11_leastBlock_0 rfl)
theorem dX11_leastBlock_1 : decode cX11_leastBlock 1 = .ok (.istore_n 3, 1) := dx_62 (dl_at 0 1 lb_X11_leastBlock_0 rfl)
theorem dX11_leastBlock_2 : decode cX11_leastBlock 2 = .ok (.iload_n 3, 1) := dx_29 (dl_at 0 2 lb_X11_leastBlock_0 rfl)
theorem dX11_leastBlock_3 : decode cX11_leastBlock 3 = .ok (.iconst 1, 1) := dx_4 (dl_at 0 3 lb_X11_leastBlock_0 rfl)
theorem dX11_leastBlock_4 : decode cX11_leastBlock 4 = .ok (.aload_n 0, 1) := dx_42 (dl_at 0 4 lb_X11_leastBlock_0 rfl)
theorem dX11_leastBlock_5 : decode cX11_leastBlock 5 = .ok (.getfield 30, 3) := dx_180 (a := 0) (b := 30) (dl_at 0 5 lb_X11_leastBlock_0 rfl) (dl_at 0 6 lb_X11_leastBlock_0 rfl) (dl_at 0 7 lb_X11_leastBlock_0 rfl) rfl
theorem dX11_leastBlock_8 : decode cX11_leastBlock 8 = .ok (.getfield 173, 3) := dx_180 (a := 0) (b := 173) (dl_at 0 8 lb_X11_leastBlock_0 rfl) (dl_at 0 9 lb_X11_leastBlock_0 rfl) (dl_at 0 10 lb_X11_leastBlock_0 rfl) rfl
theorem dX11_leastBlock_11 : decode cX11_leastBlock 11 = .ok (.ishl, 1) := dx_120 (dl_at 0 11 lb_X11_leastBlock_0 rfl)
theorem dX11_leastBlock_12 : decode cX11_leastBlock 12 = .ok (.if_icmp .ge 42, 3) := dx_162 (a := 0) (b := 42) (dl_at 0 12 lb_X11_leastBlock_0 rfl) (dl_at 0 13 lb_X11_leastBlock_0 rfl) (dl_at 0 14 lb_X11_leastBlock_0 rfl) sg16_42
theorem dX11_leastBlock_54 : decode cX11_leastBlock 54 = .ok (.bipush (-9), 2) := dx_16 (dl_at 32 22 lb_X11_leastBlock_1 rfl) (dl_at 32 23 lb_X11_leastBlock_1 rfl) sg8_247
theorem dX11_leastBlock_56 : decode cX11_leastBlock 56 = .ok (.ireturn, 1) := dx_172 (dl_at 32 24 lb_X11_leastBlock_1 rfl)
theorem dX11_leastBlock_15 : decode cX11_leastBlock 15 = .ok (.iload_n 3, 1) := dx_29 (dl_at 0 15 lb_X11_leastBlock_0 rfl)
theorem dX11_leastBlock_16 : decode cX11_leastBlock 16 = .ok (.iload_n 1, 1) := dx_27 (dl_at 0 16 lb_X11_leastBlock_0 rfl)
theorem dX11_leastBlock_17 : decode cX11_leastBlock 17 = .ok (.iconst (-1), 1) := dx_2 (dl_at 0 17 lb_X11_leastBlock_0 rfl)
theorem dX11_leastBlock_18 : decode cX11_leastBlock 18 = .ok (.ixor, 1) := dx_130 (dl_at 0 18 lb_X11_leastBlock_0 rfl)
theorem dX11_leastBlock_19 : decode cX11_leastBlock 19 = .ok (.iand, 1) := dx_126 (dl_at 0 19 lb_X11_leastBlock_0 rfl)
theorem dX11_leastBlock_20 : decode cX11_leastBlock 20 = .ok (.ifCond .ne 28, 3) := dx_154 (a := 0) (b := 28) (dl_at 0 20 lb_X11_leastBlock_0 rfl) (dl_at 0 21 lb_X11_leastBlock_0 rfl) (dl_at 0 22 lb_X11_leastBlock_0 rfl) sg16_28
theorem dX11_leastBlock_48 : decode cX11_leastBlock 48 = .ok (.iinc 3 1, 3) := dx_132 (dl_at 32 16 lb_X11_leastBlock_1 rfl) (dl_at 32 17 lb_X11_leastBlock_1 rfl) (dl_at 32 18 lb_X11_leastBlock_1 rfl) sg8_1
theorem dX11_leastBlock_51 : decode cX11_leastBlock 51 = .ok (.goto (-49), 3) := dx_167 (a := 255) (b := 207) (dl_at 32 19 lb_X11_leastBlock_1 rfl) (dl_at 32 20 lb_X11_leastBlock_1 rfl) (dl_at 32 21 lb_X11_leastBlock_1 rfl) sg16_65487
theorem dX11_leastBlock_23 : decode cX11_leastBlock 23 = .ok (.iload_n 3, 1) := dx_29 (dl_at 0 23 lb_X11_leastBlock_0 rfl)
theorem dX11_leastBlock_24 : decode cX11_leastBlock 24 = .ok (.invokestatic 306, 3) := dx_184 (a := 1) (b := 50) (dl_at 0 24 lb_X11_leastBlock_0 rfl) (dl_at 0 25 lb_X11_leastBlock_0 rfl) (dl_at 0 26 lb_X11_leastBlock_0 rfl) rfl
theorem dX11_leastBlock_27 : decode cX11_leastBlock 27 = .ok (.iload_n 2, 1) := dx_28 (dl_at 0 27 lb_X11_leastBlock_0 rfl)
theorem dX11_leastBlock_28 : decode cX11_leastBlock 28 = .ok (.if_icmp .ne 20, 3) := dx_160 (a := 0) (b := 20) (dl_at 0 28 lb_X11_leastBlock_0 rfl) (dl_at 0 29 lb_X11_leastBlock_0 rfl) (dl_at 0 30 lb_X11_leastBlock_0 rfl) sg16_20
theorem dX11_leastBlock_31 : decode cX11_leastBlock 31 = .ok (.aload_n 0, 1) := dx_42 (dl_at 0 31 lb_X11_leastBlock_0 rfl)
theorem dX11_leastBlock_32 : decode cX11_leastBlock 32 = .ok (.getfield 51, 3) := dx_180 (a := 0) (b := 51) (dl_at 32 0 lb_X11_leastBlock_1 rfl) (dl_at 32 1 lb_X11_leastBlock_1 rfl) (dl_at 32 2 lb_X11_leastBlock_1 rfl) rfl
theorem dX11_leastBlock_35 : decode cX11_leastBlock 35 = .ok (.aload_n 0, 1) := dx_42 (dl_at 32 3 lb_X11_leastBlock_1 rfl)
theorem dX11_leastBlock_36 : decode cX11_leastBlock 36 = .ok (.getfield 30, 3) := dx_180 (a := 0) (b := 30) (dl_at 32 4 lb_X11_leastBlock_1 rfl) (dl_at 32 5 lb_X11_leastBlock_1 rfl) (dl_at 32 6 lb_X11_leastBlock_1 rfl) rfl
theorem dX11_leastBlock_39 : decode cX11_leastBlock 39 = .ok (.iload_n 3, 1) := dx_29 (dl_at 32 7 lb_X11_leastBlock_1 rfl)
theorem dX11_leastBlock_40 : decode cX11_leastBlock 40 = .ok (.invokevirtual 383, 3) := dx_182 (a := 1) (b := 127) (dl_at 32 8 lb_X11_leastBlock_1 rfl) (dl_at 32 9 lb_X11_leastBlock_1 rfl) (dl_at 32 10 lb_X11_leastBlock_1 rfl) rfl
theorem dX11_leastBlock_43 : decode cX11_leastBlock 43 = .ok (.ifCond .ne 5, 3) := dx_154 (a := 0) (b := 5) (dl_at 32 11 lb_X11_leastBlock_1 rfl) (dl_at 32 12 lb_X11_leastBlock_1 rfl) (dl_at 32 13 lb_X11_leastBlock_1 rfl) sg16_5
theorem dX11_leastBlock_46 : decode cX11_leastBlock 46 = .ok (.iload_n 3, 1) := dx_29 (dl_at 32 14 lb_X11_leastBlock_1 rfl)
theorem dX11_leastBlock_47 : decode cX11_leastBlock 47 = .ok (.ireturn, 1) := dx_172 (dl_at 32 15 lb_X11_leastBlock_1 rfl)
def F_sx_walkAll (mu : Nat → Nat → Int32) : Nat → Nat → Int32 :=
  LETV (va_up mu 32 (upd (mu 32) 11 0) : Nat → Nat → Int32) fun nu1 =>
  LETV (va_up nu1 32 (upd (nu1 32) 12 0) : Nat → Nat → Int32) fun nu4 =>
  LETV (va_up nu4 32 (upd (nu4 32) 13 (-1)) : Nat → Nat → Int32) fun nu8 =>
  LETV (va_up nu8 32 (upd (nu8 32) 14 2147483647) : Nat → Nat → Int32) fun nu13 =>
  LETV (va_up nu13 55 (upd (nu13 55) 3 0) : Nat → Nat → Int32) fun nu19 =>
  LETV (va_up nu19 56 (upd (nu19 56) 3 0) : Nat → Nat → Int32) fun nu26 =>
  LETV (nu26 32 5 : Int32) fun y34 =>
  LETV (va_up nu26 54 (upd (nu26 54) (0 : Int32).toNatClampNeg y34) : Nat → Nat → Int32) fun nu35 =>
  LETV (1 <<< (y34 &&& 31) : Int32) fun t44 =>
  LETV (nu35 32 7 : Int32) fun y45 =>
  LETV (F_sx_walkOn0 nu35 (t44 : Int32) (y45 : Int32) : Nat → Nat → Int32) fun xi46 =>
  xi46
def F_sx_walkOf (mu : Nat → Nat → Int32) (kl : Nat) : Nat → Nat → Int32 :=
  LETV (F_sx_lookAt mu kl : Nat → Nat → Int32) fun xi1 =>
  LETV (F_sx_walkAll xi1 : Nat → Nat → Int32) fun xi3 =>
  xi3
def F_sx_walkNew (mu : Nat → Nat → Int32) (vx : Int32) (vy : Int32) : Nat → Nat → Int32 :=
  LETV (F_sx_lookFrom mu (vx : Int32) (vy : Int32) (0 : Int32) : Nat → Nat → Int32) fun xi1 =>
  LETV (va_up xi1 32 (upd (xi1 32) 8 0) : Nat → Nat → Int32) fun nu3 =>
  LETV (va_up nu3 32 (upd (nu3 32) 9 0) : Nat → Nat → Int32) fun nu6 =>
  LETV (va_up nu6 32 (upd (nu6 32) 10 0) : Nat → Nat → Int32) fun nu10 =>
  LETV (F_sx_walkAll nu10 : Nat → Nat → Int32) fun xi15 =>
  xi15
def F_sx_walkWithLoan (mu : Nat → Nat → Int32) (vx : Int32) (vl : Int32) : Nat → Nat → Int32 :=
  LETV (mu 53 vx.toNatClampNeg : Int32) fun y1 =>
  LETV (va_up mu 53 (upd (mu 53) vx.toNatClampNeg vl) : Nat → Nat → Int32) fun nu2 =>
  LETV (F_sx_walkAll nu2 : Nat → Nat → Int32) fun xi4 =>
  LETV (va_up xi4 53 (upd (xi4 53) vx.toNatClampNeg y1) : Nat → Nat → Int32) fun nu6 =>
  nu6
def L_sx_comesFrom6_21_0 (mu : Nat → Nat → Int32) : Nat → (Int32) → Int32
  | 0, v8_21 => 0
  | n + 1, v8_21 =>
    LETV (mu 4 6 : Int32) fun y3 =>
    if v8_21 ≥ y3 then (
      (0 : Int32)
    ) else (
      (0 : Int32)
    )
def F_sx_comesFrom6 (mu : Nat → Nat → Int32) (vx : Int32) (vu : Int32) (vp : Int32) : Int32 :=
  LETV (mu 34 vx.toNatClampNeg : Int32) fun y1 =>
  LETV (F_sx_priceAsked (y1 : Int32) (vp : Int32) : Int32) fun r2 =>
  L_sx_comesFrom6_21_0 mu 10 (0 : Int32)
def L_sx_comesFrom5_21_0 (mu : Nat → Nat → Int32) (r2 : Int32) (vu : Int32) (vx : Int32) : Nat → (Int32) → Int32
  | 0, v8_21 => 0
  | n + 1, v8_21 =>
    LETV (mu 4 6 : Int32) fun y3 =>
    if v8_21 ≥ y3 then (
      (0 : Int32)
    ) else (
      LETV (F_sx_buys mu (vx : Int32) (v8_21 : Int32) (vu : Int32) (r2 : Int32) : Int32) fun r5 =>
      if r5 = (0 : Int32) then (
        LETV ((v8_21 + 1) : Int32) fun w18 =>
        L_sx_comesFrom5_21_0 mu r2 vu vx n (w18 : Int32)
      ) else (
        LETV (mu 32 6 : Int32) fun y7 =>
        if v8_21 = y7 then (
          LETV (F_sx_needFor mu (6 : Int32) (r2 : Int32) : Int32) fun r14 =>
          LETV (mu 32 8 : Int32) fun y15 =>
          if r14 > y15 then (
            LETV ((v8_21 + 1) : Int32) fun w17 =>
            L_sx_comesFrom5_21_0 mu r2 vu vx n (w17 : Int32)
          ) else (
            (1 : Int32)
          )
        ) else (
          LETV (1 <<< (v8_21 &&& 31) : Int32) fun t9 =>
          LETV (vu ||| t9 : Int32) fun t10 =>
          LETV (F_sx_comesFrom6 mu (v8_21 : Int32) (t10 : Int32) (r2 : Int32) : Int32) fun r11 =>
          if r11 = (0 : Int32) then (
            LETV ((v8_21 + 1) : Int32) fun w13 =>
            L_sx_comesFrom5_21_0 mu r2 vu vx n (w13 : Int32)
          ) else (
            (1 : Int32)
          )
        )
      )
    )
def F_sx_comesFrom5 (mu : Nat → Nat → Int32) (vx : Int32) (vu : Int32) (vp : Int32) : Int32 :=
  LETV (mu 34 vx.toNatClampNeg : Int32) fun y1 =>
  LETV (F_sx_priceAsked (y1 : Int32) (vp : Int32) : Int32) fun r2 =>
  L_sx_comesFrom5_21_0 mu r2 vu vx 10 (0 : Int32)
def L_sx_comesFrom4_21_0 (mu : Nat → Nat → Int32) (r2 : Int32) (vu : Int32) (vx : Int32) : Nat → (Int32) → Int32
  | 0, v8_21 => 0
  | n + 1, v8_21 =>
    LETV (mu 4 6 : Int32) fun y3 =>
    if v8_21 ≥ y3 then (
      (0 : Int32)
    ) else (
      LETV (F_sx_buys mu (vx : Int32) (v8_21 : Int32) (vu : Int32) (r2 : Int32) : Int32) fun r5 =>
      if r5 = (0 : Int32) then (
        LETV ((v8_21 + 1) : Int32) fun w18 =>
        L_sx_comesFrom4_21_0 mu r2 vu vx n (w18 : Int32)
      ) else (
        LETV (mu 32 6 : Int32) fun y7 =>
        if v8_21 = y7 then (
          LETV (F_sx_needFor mu (5 : Int32) (r2 : Int32) : Int32) fun r14 =>
          LETV (mu 32 8 : Int32) fun y15 =>
          if r14 > y15 then (
            LETV ((v8_21 + 1) : Int32) fun w17 =>
            L_sx_comesFrom4_21_0 mu r2 vu vx n (w17 : Int32)
          ) else (
            (1 : Int32)
          )
        ) else (
          LETV (1 <<< (v8_21 &&& 31) : Int32) fun t9 =>
          LETV (vu ||| t9 : Int32) fun t10 =>
          LETV (F_sx_comesFrom5 mu (v8_21 : Int32) (t10 : Int32) (r2 : Int32) : Int32) fun r11 =>
          if r11 = (0 : Int32) then (
            LETV ((v8_21 + 1) : Int32) fun w13 =>
            L_sx_comesFrom4_21_0 mu r2 vu vx n (w13 : Int32)
          ) else (
            (1 : Int32)
          )
        )
      )
    )
def F_sx_comesFrom4 (mu : Nat → Nat → Int32) (vx : Int32) (vu : Int32) (vp : Int32) : Int32 :=
  LETV (mu 34 vx.toNatClampNeg : Int32) fun y1 =>
  LETV (F_sx_priceAsked (y1 : Int32) (vp : Int32) : Int32) fun r2 =>
  L_sx_comesFrom4_21_0 mu r2 vu vx 10 (0 : Int32)
def L_sx_comesFrom3_21_0 (mu : Nat → Nat → Int32) (r2 : Int32) (vu : Int32) (vx : Int32) : Nat → (Int32) → Int32
  | 0, v8_21 => 0
  | n + 1, v8_21 =>
    LETV (mu 4 6 : Int32) fun y3 =>
    if v8_21 ≥ y3 then (
      (0 : Int32)
    ) else (
      LETV (F_sx_buys mu (vx : Int32) (v8_21 : Int32) (vu : Int32) (r2 : Int32) : Int32) fun r5 =>
      if r5 = (0 : Int32) then (
        LETV ((v8_21 + 1) : Int32) fun w18 =>
        L_sx_comesFrom3_21_0 mu r2 vu vx n (w18 : Int32)
      ) else (
        LETV (mu 32 6 : Int32) fun y7 =>
        if v8_21 = y7 then (
          LETV (F_sx_needFor mu (4 : Int32) (r2 : Int32) : Int32) fun r14 =>
          LETV (mu 32 8 : Int32) fun y15 =>
          if r14 > y15 then (
            LETV ((v8_21 + 1) : Int32) fun w17 =>
            L_sx_comesFrom3_21_0 mu r2 vu vx n (w17 : Int32)
          ) else (
            (1 : Int32)
          )
        ) else (
          LETV (1 <<< (v8_21 &&& 31) : Int32) fun t9 =>
          LETV (vu ||| t9 : Int32) fun t10 =>
          LETV (F_sx_comesFrom4 mu (v8_21 : Int32) (t10 : Int32) (r2 : Int32) : Int32) fun r11 =>
          if r11 = (0 : Int32) then (
            LETV ((v8_21 + 1) : Int32) fun w13 =>
            L_sx_comesFrom3_21_0 mu r2 vu vx n (w13 : Int32)
          ) else (
            (1 : Int32)
          )
        )
      )
    )
def F_sx_comesFrom3 (mu : Nat → Nat → Int32) (vx : Int32) (vu : Int32) (vp : Int32) : Int32 :=
  LETV (mu 34 vx.toNatClampNeg : Int32) fun y1 =>
  LETV (F_sx_priceAsked (y1 : Int32) (vp : Int32) : Int32) fun r2 =>
  L_sx_comesFrom3_21_0 mu r2 vu vx 10 (0 : Int32)
def L_sx_comesFrom2_21_0 (mu : Nat → Nat → Int32) (r2 : Int32) (vu : Int32) (vx : Int32) : Nat → (Int32) → Int32
  | 0, v8_21 => 0
  | n + 1, v8_21 =>
    LETV (mu 4 6 : Int32) fun y3 =>
    if v8_21 ≥ y3 then (
      (0 : Int32)
    ) else (
      LETV (F_sx_buys mu (vx : Int32) (v8_21 : Int32) (vu : Int32) (r2 : Int32) : Int32) fun r5 =>
      if r5 = (0 : Int32) then (
        LETV ((v8_21 + 1) : Int32) fun w18 =>
        L_sx_comesFrom2_21_0 mu r2 vu vx n (w18 : Int32)
      ) else (
        LETV (mu 32 6 : Int32) fun y7 =>
        if v8_21 = y7 then (
          LETV (F_sx_needFor mu (3 : Int32) (r2 : Int32) : Int32) fun r14 =>
          LETV (mu 32 8 : Int32) fun y15 =>
          if r14 > y15 then (
            LETV ((v8_21 + 1) : Int32) fun w17 =>
            L_sx_comesFrom2_21_0 mu r2 vu vx n (w17 : Int32)
          ) else (
            (1 : Int32)
          )
        ) else (
          LETV (1 <<< (v8_21 &&& 31) : Int32) fun t9 =>
          LETV (vu ||| t9 : Int32) fun t10 =>
          LETV (F_sx_comesFrom3 mu (v8_21 : Int32) (t10 : Int32) (r2 : Int32) : Int32) fun r11 =>
          if r11 = (0 : Int32) then (
            LETV ((v8_21 + 1) : Int32) fun w13 =>
            L_sx_comesFrom2_21_0 mu r2 vu vx n (w13 : Int32)
          ) else (
            (1 : Int32)
          )
        )
      )
    )
def F_sx_comesFrom2 (mu : Nat → Nat → Int32) (vx : Int32) (vu : Int32) (vp : Int32) : Int32 :=
  LETV (mu 34 vx.toNatClampNeg : Int32) fun y1 =>
  LETV (F_sx_priceAsked (y1 : Int32) (vp : Int32) : Int32) fun r2 =>
  L_sx_comesFrom2_21_0 mu r2 vu vx 10 (0 : Int32)
def L_sx_comesFrom1_21_0 (mu : Nat → Nat → Int32) (r2 : Int32) (vu : Int32) (vx : Int32) : Nat → (Int32) → Int32
  | 0, v8_21 => 0
  | n + 1, v8_21 =>
    LETV (mu 4 6 : Int32) fun y3 =>
    if v8_21 ≥ y3 then (
      (0 : Int32)
    ) else (
      LETV (F_sx_buys mu (vx : Int32) (v8_21 : Int32) (vu : Int32) (r2 : Int32) : Int32) fun r5 =>
      if r5 = (0 : Int32) then (
        LETV ((v8_21 + 1) : Int32) fun w18 =>
        L_sx_comesFrom1_21_0 mu r2 vu vx n (w18 : Int32)
      ) else (
        LETV (mu 32 6 : Int32) fun y7 =>
        if v8_21 = y7 then (
          LETV (F_sx_needFor mu (2 : Int32) (r2 : Int32) : Int32) fun r14 =>
          LETV (mu 32 8 : Int32) fun y15 =>
          if r14 > y15 then (
            LETV ((v8_21 + 1) : Int32) fun w17 =>
            L_sx_comesFrom1_21_0 mu r2 vu vx n (w17 : Int32)
          ) else (
            (1 : Int32)
          )
        ) else (
          LETV (1 <<< (v8_21 &&& 31) : Int32) fun t9 =>
          LETV (vu ||| t9 : Int32) fun t10 =>
          LETV (F_sx_comesFrom2 mu (v8_21 : Int32) (t10 : Int32) (r2 : Int32) : Int32) fun r11 =>
          if r11 = (0 : Int32) then (
            LETV ((v8_21 + 1) : Int32) fun w13 =>
            L_sx_comesFrom1_21_0 mu r2 vu vx n (w13 : Int32)
          ) else (
            (1 : Int32)
          )
        )
      )
    )
def F_sx_comesFrom1 (mu : Nat → Nat → Int32) (vx : Int32) (vu : Int32) (vp : Int32) : Int32 :=
  LETV (mu 34 vx.toNatClampNeg : Int32) fun y1 =>
  LETV (F_sx_priceAsked (y1 : Int32) (vp : Int32) : Int32) fun r2 =>
  L_sx_comesFrom1_21_0 mu r2 vu vx 10 (0 : Int32)
def L_sx_comesFrom0_21_0 (mu : Nat → Nat → Int32) (r2 : Int32) (vu : Int32) (vx : Int32) : Nat → (Int32) → Int32
  | 0, v8_21 => 0
  | n + 1, v8_21 =>
    LETV (mu 4 6 : Int32) fun y3 =>
    if v8_21 ≥ y3 then (
      (0 : Int32)
    ) else (
      LETV (F_sx_buys mu (vx : Int32) (v8_21 : Int32) (vu : Int32) (r2 : Int32) : Int32) fun r5 =>
      if r5 = (0 : Int32) then (
        LETV ((v8_21 + 1) : Int32) fun w18 =>
        L_sx_comesFrom0_21_0 mu r2 vu vx n (w18 : Int32)
      ) else (
        LETV (mu 32 6 : Int32) fun y7 =>
        if v8_21 = y7 then (
          LETV (F_sx_needFor mu (1 : Int32) (r2 : Int32) : Int32) fun r14 =>
          LETV (mu 32 8 : Int32) fun y15 =>
          if r14 > y15 then (
            LETV ((v8_21 + 1) : Int32) fun w17 =>
            L_sx_comesFrom0_21_0 mu r2 vu vx n (w17 : Int32)
          ) else (
            (1 : Int32)
          )
        ) else (
          LETV (1 <<< (v8_21 &&& 31) : Int32) fun t9 =>
          LETV (vu ||| t9 : Int32) fun t10 =>
          LETV (F_sx_comesFrom1 mu (v8_21 : Int32) (t10 : Int32) (r2 : Int32) : Int32) fun r11 =>
          if r11 = (0 : Int32) then (
            LETV ((v8_21 + 1) : Int32) fun w13 =>
            L_sx_comesFrom0_21_0 mu r2 vu vx n (w13 : Int32)
          ) else (
            (1 : Int32)
          )
        )
      )
    )
def F_sx_comesFrom0 (mu : Nat → Nat → Int32) (vx : Int32) (vu : Int32) (vp : Int32) : Int32 :=
  LETV (mu 34 vx.toNatClampNeg : Int32) fun y1 =>
  LETV (F_sx_priceAsked (y1 : Int32) (vp : Int32) : Int32) fun r2 =>
  L_sx_comesFrom0_21_0 mu r2 vu vx 10 (0 : Int32)
def F_sx_comesUnder (mu : Nat → Nat → Int32) (vs : Int32) : Int32 × (Nat → Nat → Int32) :=
  LETV (mu 5 2 : Int32) fun y1 =>
  LETV (y1 ||| vs : Int32) fun t2 =>
  LETV (F_sx_linkUnder mu (t2 : Int32) : Nat → Nat → Int32) fun xi3 =>
  LETV (xi3 32 5 : Int32) fun y5 =>
  LETV (1 <<< (y5 &&& 31) : Int32) fun t6 =>
  LETV (xi3 32 7 : Int32) fun y7 =>
  LETV (F_sx_comesFrom0 xi3 (y5 : Int32) (t6 : Int32) (y7 : Int32) : Int32) fun r8 =>
  ((r8 : Int32), xi3)
def L_sx_isLinked_18_1 (mu : Nat → Nat → Int32) (v3_9 : Int32) (y1 : Int32) (k_sx_isLinked_9_0 : (Int32) → (Int32) → (Int32)) : Nat → (Int32) → (Int32) → Int32
  | 0, v2_18, v4_18 => 0
  | n + 1, v2_18, v4_18 =>
    LETV (mu 4 6 : Int32) fun y6 =>
    if v4_18 ≥ y6 then (
      LETV ((v3_9 + 1) : Int32) fun w8 =>
      k_sx_isLinked_9_0 (v2_18 : Int32) (w8 : Int32)
    ) else (
      LETV (F_sx_hasBit (v2_18 : Int32) (v4_18 : Int32) : Int32) fun r9 =>
      if r9 = (0 : Int32) then (
        LETV ((v4_18 + 1) : Int32) fun w11 =>
        L_sx_isLinked_18_1 mu v3_9 y1 k_sx_isLinked_9_0 n (v2_18 : Int32) (w11 : Int32)
      ) else (
        if v4_18 = y1 then (
          LETV (mu 52 v4_18.toNatClampNeg : Int32) fun y13 =>
          LETV (v2_18 ||| y13 : Int32) fun t14 =>
          LETV ((v4_18 + 1) : Int32) fun w15 =>
          L_sx_isLinked_18_1 mu v3_9 y1 k_sx_isLinked_9_0 n (t14 : Int32) (w15 : Int32)
        ) else (
          LETV (mu 34 v4_18.toNatClampNeg : Int32) fun y16 =>
          if y16 = (3 : Int32) then (
            LETV ((v4_18 + 1) : Int32) fun w18 =>
            L_sx_isLinked_18_1 mu v3_9 y1 k_sx_isLinked_9_0 n (v2_18 : Int32) (w18 : Int32)
          ) else (
            LETV (mu 52 v4_18.toNatClampNeg : Int32) fun y19 =>
            LETV (v2_18 ||| y19 : Int32) fun t20 =>
            LETV ((v4_18 + 1) : Int32) fun w21 =>
            L_sx_isLinked_18_1 mu v3_9 y1 k_sx_isLinked_9_0 n (t20 : Int32) (w21 : Int32)
          )
        )
      )
    )
def L_sx_isLinked_9_0 (mu : Nat → Nat → Int32) (y1 : Int32) : Nat → (Int32) → (Int32) → Int32
  | 0, v2_9, v3_9 => 0
  | n + 1, v2_9, v3_9 =>
    if v3_9 ≥ (7 : Int32) then (
      LETV (mu 32 6 : Int32) fun y4 =>
      LETV (F_sx_hasBit (v2_9 : Int32) (y4 : Int32) : Int32) fun r5 =>
      (r5 : Int32)
    ) else (
      L_sx_isLinked_18_1 mu v3_9 y1 (fun z_v2_9 z_v3_9 => L_sx_isLinked_9_0 mu y1 n z_v2_9 z_v3_9) 10 (v2_9 : Int32) (0 : Int32)
    )
def F_sx_isLinked (mu : Nat → Nat → Int32) : Int32 :=
  LETV (mu 32 5 : Int32) fun y1 =>
  LETV (1 <<< (y1 &&& 31) : Int32) fun t2 =>
  L_sx_isLinked_9_0 mu y1 10 (t2 : Int32) (0 : Int32)
def L_sx_leastBlock_2_0 (vf : Int32) (vo : Int32) : Nat → (Int32) → (Nat → Nat → Int32) → Int32 × (Nat → Nat → Int32)
  | 0, v3_2, nu2_ => (0, nu2_)
  | n + 1, v3_2, nu2_ =>
    LETV (nu2_ 4 7 : Int32) fun y1 =>
    LETV (1 <<< (y1 &&& 31) : Int32) fun t2 =>
    if v3_2 ≥ t2 then (
      (((-9) : Int32), nu2_)
    ) else (
      LETV (vo ^^^ (-1) : Int32) fun t4 =>
      LETV (v3_2 &&& t4 : Int32) fun t5 =>
      if t5 = (0 : Int32) then (
        LETV (F_sx_bitCount (v3_2 : Int32) : Int32) fun r8 =>
        if r8 = vf then (
          LETP (F_sx_comesUnder nu2_ (v3_2 : Int32)) fun r11 xi11 =>
          if r11 = (0 : Int32) then (
            ((v3_2 : Int32), xi11)
          ) else (
            LETV ((v3_2 + 1) : Int32) fun w14 =>
            L_sx_leastBlock_2_0 vf vo n (w14 : Int32) xi11
          )
        ) else (
          LETV ((v3_2 + 1) : Int32) fun w10 =>
          L_sx_leastBlock_2_0 vf vo n (w10 : Int32) nu2_
        )
      ) else (
        LETV ((v3_2 + 1) : Int32) fun w7 =>
        L_sx_leastBlock_2_0 vf vo n (w7 : Int32) nu2_
      )
    )
def F_sx_leastBlock (mu : Nat → Nat → Int32) (vo : Int32) (vf : Int32) : Int32 × (Nat → Nat → Int32) :=
  L_sx_leastBlock_2_0 vf vo 4099 (0 : Int32) mu
