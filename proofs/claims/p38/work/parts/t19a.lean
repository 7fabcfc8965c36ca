theorem mw_6_179 : (Cond.constant RX12 254 1048576 : Cond) ∈ lw_good := lg_at 6 179 rfl rfl
theorem mw_6_178 : (Cond.code yX12_setRoutes cX12_setRoutes 5 none : Cond) ∈ lw_good := lg_at 6 178 rfl rfl
theorem mw_6_175 : (Cond.methodLink RX12 255 yX12_setRoutes : Cond) ∈ lw_good := lg_at 6 175 rfl rfl
theorem mw_6_177 : (Cond.instanceMethod yX12_setRoutes : Cond) ∈ lw_good := lg_at 6 177 rfl rfl
theorem mw_0_54 : (Cond.selects RX12 yX12_setRoutes yX12_setRoutes : Cond) ∈ lw_good := lg_at 0 54 rfl rfl
theorem mw_6_174 : (Cond.code yX12_routesOf cX12_routesOf 2 none : Cond) ∈ lw_good := lg_at 6 174 rfl rfl
theorem mw_6_171 : (Cond.methodLink RX12 259 yX12_routesOf : Cond) ∈ lw_good := lg_at 6 171 rfl rfl
theorem mw_6_173 : (Cond.instanceMethod yX12_routesOf : Cond) ∈ lw_good := lg_at 6 173 rfl rfl
theorem mw_0_53 : (Cond.selects RX12 yX12_routesOf yX12_routesOf : Cond) ∈ lw_good := lg_at 0 53 rfl rfl
theorem mw_5_183 : (Cond.code yX12_row cX12_row 4 (some .int) : Cond) ∈ lw_good := lg_at 5 183 rfl rfl
theorem mw_6_196 : (Cond.methodLink RX12 263 yX12_row : Cond) ∈ lw_good := lg_at 6 196 rfl rfl
theorem mw_5_181 : (Cond.instanceMethod yX12_row : Cond) ∈ lw_good := lg_at 5 181 rfl rfl
theorem mw_5_182 : (Cond.selects RX12 yX12_row yX12_row : Cond) ∈ lw_good := lg_at 5 182 rfl rfl
theorem hM_0_39 (cs : Nat → ClassId) (ad : Nat → Nat) (g : Nat → Int32) (v : Int32) : EM cs ad 0 (upd g 39 v) = .inr (12, [.int (g 0), .ref (ad 1), .int (g 2), .ref (ad 2), .ref (ad 3), .ref (ad 4), .ref (ad 5), .ref (ad 6), .int (g 8), .ref (ad 7), .ref (ad 8), .int (g 11), .ref (ad 9), .int (g 13), .int (g 14), .int (g 15), .ref (ad 10), .int (g 17), .int (g 18), .int (g 19), .int (g 20), .ref (ad 11), .ref (ad 12), .ref (ad 13), .ref (ad 14), .ref (ad 15), .ref (ad 16), .ref (ad 17), .ref (ad 18), .int (g 29), .int (g 30), .int (g 31), .int (g 32), .int (g 33), .int (g 34), .int (g 35), .int (g 36), .int (g 37), .int (g 38), .int v, .ref (ad 19), .ref (ad 20), .int (g 42), .int (g 43), .int (g 44), .long (jn (g 45) (g 46))]) := by
  rfl
theorem tM_0_39 {mu : Nat → Nat → Int32} (ok : okR loM hiM mu) {nu : Nat → Nat → Int32} {v : Int32} (hn : va_up mu 0 (upd (mu 0) 39 v) = nu) (hv : -9 ≤ v.toInt ∧ v.toInt ≤ 3) : okR loM hiM nu := by
  subst hn
  exact okR_up ok 0 39 v hv.1 hv.2
theorem hM_0_29 (cs : Nat → ClassId) (ad : Nat → Nat) (g : Nat → Int32) (v : Int32) : EM cs ad 0 (upd g 29 v) = .inr (12, [.int (g 0), .ref (ad 1), .int (g 2), .ref (ad 2), .ref (ad 3), .ref (ad 4), .ref (ad 5), .ref (ad 6), .int (g 8), .ref (ad 7), .ref (ad 8), .int (g 11), .ref (ad 9), .int (g 13), .int (g 14), .int (g 15), .ref (ad 10), .int (g 17), .int (g 18), .int (g 19), .int (g 20), .ref (ad 11), .ref (ad 12), .ref (ad 13), .ref (ad 14), .ref (ad 15), .ref (ad 16), .ref (ad 17), .ref (ad 18), .int v, .int (g 30), .int (g 31), .int (g 32), .int (g 33), .int (g 34), .int (g 35), .int (g 36), .int (g 37), .int (g 38), .int (g 39), .ref (ad 19), .ref (ad 20), .int (g 42), .int (g 43), .int (g 44), .long (jn (g 45) (g 46))]) := by
  rfl
theorem tM_0_29 {mu : Nat → Nat → Int32} (ok : okR loM hiM mu) {nu : Nat → Nat → Int32} {v : Int32} (hn : va_up mu 0 (upd (mu 0) 29 v) = nu) : okR loM hiM nu := by
  subst hn
  exact okR_up ok 0 29 v (tI_lo v) (tI_hi v)
theorem hM_0_38 (cs : Nat → ClassId) (ad : Nat → Nat) (g : Nat → Int32) (v : Int32) : EM cs ad 0 (upd g 38 v) = .inr (12, [.int (g 0), .ref (ad 1), .int (g 2), .ref (ad 2), .ref (ad 3), .ref (ad 4), .ref (ad 5), .ref (ad 6), .int (g 8), .ref (ad 7), .ref (ad 8), .int (g 11), .ref (ad 9), .int (g 13), .int (g 14), .int (g 15), .ref (ad 10), .int (g 17), .int (g 18), .int (g 19), .int (g 20), .ref (ad 11), .ref (ad 12), .ref (ad 13), .ref (ad 14), .ref (ad 15), .ref (ad 16), .ref (ad 17), .ref (ad 18), .int (g 29), .int (g 30), .int (g 31), .int (g 32), .int (g 33), .int (g 34), .int (g 35), .int (g 36), .int (g 37), .int v, .int (g 39), .ref (ad 19), .ref (ad 20), .int (g 42), .int (g 43), .int (g 44), .long (jn (g 45) (g 46))]) := by
  rfl
theorem tM_0_38 {mu : Nat → Nat → Int32} (ok : okR loM hiM mu) {nu : Nat → Nat → Int32} {v : Int32} (hn : va_up mu 0 (upd (mu 0) 38 v) = nu) (hv : 0 ≤ v.toInt ∧ v.toInt ≤ 1) : okR loM hiM nu := by
  subst hn
  exact okR_up ok 0 38 v hv.1 hv.2
theorem lb_X12_setRoutes_0 : dl_ck (cX12_setRoutes.data.toList.drop 0) [42, 27, 181, 0, 223, 42, 29, 181, 0, 245, 42, 3, 181, 0, 210, 42, 18, 254, 181, 0, 213, 42, 3, 181, 0, 216, 42, 3, 181, 0, 229, 42] = true := by decide +kernel
theorem lb_X12_setRoutes_1 : dl_ck (cX12_setRoutes.data.toList.drop 32) [3, 181, 0, 238, 42, 18, 254, 181, 0, 235, 42, 16, 127, 181, 0, 232, 42, 18, 254, 181, 0, 226, 42, 180, 0, 55, 3, 28, 79, 42, 4, 4] = true := by decide +kernel
theorem lb_X12_setRoutes_2 : dl_ck (cX12_setRoutes.data.toList.drop 64) [28, 120, 21, 4, 182, 0, 251, 177] = true := by decide +kernel
theorem dX12_setRoutes_0 : decode cX12_setRoutes 0 = .ok (.aload_n 0, 1) := dx_42 (dl_at 0 0 lb_X12_setRoutes_0 rfl)
theorem dX12_setRoutes_1 : decode cX12_setRoutes 1 = .ok (.iload_n 1, 1) := dx_27 (dl_at 0 1 lb_X12_setRoutes_0 rfl)
theorem dX12_setRoutes_2 : decode cX12_setRoutes 2 = .ok (.putfield 223, 3) := dx_181 (a := 0) (b := 223) (dl_at 0 2 lb_X12_setRoutes_0 rfl) (dl_at 0 3 lb_X12_setRoutes_0 rfl) (dl_at 0 4 lb_X12_setRoutes_0 rfl) rfl
theorem dX12_setRoutes_5 : decode cX12_setRoutes 5 = .ok (.aload_n 0, 1) := dx_42 (dl_at 0 5 lb_X12_setRoutes_0 rfl)
theorem dX12_setRoutes_6 : decode cX12_setRoutes 6 = .ok (.iload_n 3, 1) := dx_29 (dl_at 0 6 lb_X12_setRoutes_0 rfl)
theorem dX12_setRoutes_7 : decode cX12_setRoutes 7 = .ok (.putfield 245, 3) := dx_181 (a := 0) (b := 245) (dl_at 0 7 lb_X12_setRoutes_0 rfl) (dl_at 0 8 lb_X12_setRoutes_0 rfl) (dl_at 0 9 lb_X12_setRoutes_0 rfl) rfl
theorem dX12_setRoutes_10 : decode cX12_setRoutes 10 = .ok (.aload_n 0, 1) := dx_42 (dl_at 0 10 lb_X12_setRoutes_0 rfl)
theorem dX12_setRoutes_11 : decode cX12_setRoutes 11 = .ok (.iconst 0, 1) := dx_3 (dl_at 0 11 lb_X12_setRoutes_0 rfl)
theorem dX12_setRoutes_12 : decode cX12_setRoutes 12 = .ok (.putfield 210, 3) := dx_181 (a := 0) (b := 210) (dl_at 0 12 lb_X12_setRoutes_0 rfl) (dl_at 0 13 lb_X12_setRoutes_0 rfl) (dl_at 0 14 lb_X12_setRoutes_0 rfl) rfl
theorem dX12_setRoutes_15 : decode cX12_setRoutes 15 = .ok (.aload_n 0, 1) := dx_42 (dl_at 0 15 lb_X12_setRoutes_0 rfl)
theorem dX12_setRoutes_16 : decode cX12_setRoutes 16 = .ok (.ldc 254, 2) := dx_18 (dl_at 0 16 lb_X12_setRoutes_0 rfl) (dl_at 0 17 lb_X12_setRoutes_0 rfl)
theorem dX12_setRoutes_18 : decode cX12_setRoutes 18 = .ok (.putfield 213, 3) := dx_181 (a := 0) (b := 213) (dl_at 0 18 lb_X12_setRoutes_0 rfl) (dl_at 0 19 lb_X12_setRoutes_0 rfl) (dl_at 0 20 lb_X12_setRoutes_0 rfl) rfl
theorem dX12_setRoutes_21 : decode cX12_setRoutes 21 = .ok (.aload_n 0, 1) := dx_42 (dl_at 0 21 lb_X12_setRoutes_0 rfl)
theorem dX12_setRoutes_22 : decode cX12_setRoutes 22 = .ok (.iconst 0, 1) := dx_3 (dl_at 0 22 lb_X12_setRoutes_0 rfl)
theorem dX12_setRoutes_23 : decode cX12_setRoutes 23 = .ok (.putfield 216, 3) := dx_181 (a := 0) (b := 216) (dl_at 0 23 lb_X12_setRoutes_0 rfl) (dl_at 0 24 lb_X12_setRoutes_0 rfl) (dl_at 0 25 lb_X12_setRoutes_0 rfl) rfl
theorem dX12_setRoutes_26 : decode cX12_setRoutes 26 = .ok (.aload_n 0, 1) := dx_42 (dl_at 0 26 lb_X12_setRoutes_0 rfl)
theorem dX12_setRoutes_27 : decode cX12_setRoutes 27 = .ok (.iconst 0, 1) := dx_3 (dl_at 0 27 lb_X12_setRoutes_0 rfl)
theorem dX12_setRoutes_28 : decode cX12_setRoutes 28 = .ok (.putfield 229, 3) := dx_181 (a := 0) (b := 229) (dl_at 0 28 lb_X12_setRoutes_0 rfl) (dl_at 0 29 lb_X12_setRoutes_0 rfl) (dl_at 0 30 lb_X12_setRoutes_0 rfl) rfl
theorem dX12_setRoutes_31 : decode cX12_setRoutes 31 = .ok (.aload_n 0, 1) := dx_42 (dl_at 0 31 lb_X12_setRoutes_0 rfl)
theorem dX12_setRoutes_32 : decode cX12_setRoutes 32 = .ok (.iconst 0, 1) := dx_3 (dl_at 32 0 lb_X12_setRoutes_1 rfl)
theorem dX12_setRoutes_33 : decode cX12_setRoutes 33 = .ok (.putfield 238, 3) := dx_181 (a := 0) (b := 238) (dl_at 32 1 lb_X12_setRoutes_1 rfl) (dl_at 32 2 lb_X12_setRoutes_1 rfl) (dl_at 32 3 lb_X12_setRoutes_1 rfl) rfl
theorem dX12_setRoutes_36 : decode cX12_setRoutes 36 = .ok (.aload_n 0, 1) := dx_42 (dl_at 32 4 lb_X12_setRoutes_1 rfl)
theorem dX12_setRoutes_37 : decode cX12_setRoutes 37 = .ok (.ldc 254, 2) := dx_18 (dl_at 32 5 lb_X12_setRoutes_1 rfl) (dl_at 32 6 lb_X12_setRoutes_1 rfl)
theorem dX12_setRoutes_39 : decode cX12_setRoutes 39 = .ok (.putfield 235, 3) := dx_181 (a := 0) (b := 235) (dl_at 32 7 lb_X12_setRoutes_1 rfl) (dl_at 32 8 lb_X12_setRoutes_1 rfl) (dl_at 32 9 lb_X12_setRoutes_1 rfl) rfl
theorem dX12_setRoutes_42 : decode cX12_setRoutes 42 = .ok (.aload_n 0, 1) := dx_42 (dl_at 32 10 lb_X12_setRoutes_1 rfl)
theorem dX12_setRoutes_43 : decode cX12_setRoutes 43 = .ok (.bipush 127, 2) := dx_16 (dl_at 32 11 lb_X12_setRoutes_1 rfl) (dl_at 32 12 lb_X12_setRoutes_1 rfl) sg8_127
theorem dX12_setRoutes_45 : decode cX12_setRoutes 45 = .ok (.putfield 232, 3) := dx_181 (a := 0) (b := 232) (dl_at 32 13 lb_X12_setRoutes_1 rfl) (dl_at 32 14 lb_X12_setRoutes_1 rfl) (dl_at 32 15 lb_X12_setRoutes_1 rfl) rfl
theorem dX12_setRoutes_48 : decode cX12_setRoutes 48 = .ok (.aload_n 0, 1) := dx_42 (dl_at 32 16 lb_X12_setRoutes_1 rfl)
theorem dX12_setRoutes_49 : decode cX12_setRoutes 49 = .ok (.ldc 254, 2) := dx_18 (dl_at 32 17 lb_X12_setRoutes_1 rfl) (dl_at 32 18 lb_X12_setRoutes_1 rfl)
theorem dX12_setRoutes_51 : decode cX12_setRoutes 51 = .ok (.putfield 226, 3) := dx_181 (a := 0) (b := 226) (dl_at 32 19 lb_X12_setRoutes_1 rfl) (dl_at 32 20 lb_X12_setRoutes_1 rfl) (dl_at 32 21 lb_X12_setRoutes_1 rfl) rfl
theorem dX12_setRoutes_54 : decode cX12_setRoutes 54 = .ok (.aload_n 0, 1) := dx_42 (dl_at 32 22 lb_X12_setRoutes_1 rfl)
theorem dX12_setRoutes_55 : decode cX12_setRoutes 55 = .ok (.getfield 55, 3) := dx_180 (a := 0) (b := 55) (dl_at 32 23 lb_X12_setRoutes_1 rfl) (dl_at 32 24 lb_X12_setRoutes_1 rfl) (dl_at 32 25 lb_X12_setRoutes_1 rfl) rfl
theorem dX12_setRoutes_58 : decode cX12_setRoutes 58 = .ok (.iconst 0, 1) := dx_3 (dl_at 32 26 lb_X12_setRoutes_1 rfl)
theorem dX12_setRoutes_59 : decode cX12_setRoutes 59 = .ok (.iload_n 2, 1) := dx_28 (dl_at 32 27 lb_X12_setRoutes_1 rfl)
theorem dX12_setRoutes_60 : decode cX12_setRoutes 60 = .ok (.iastore, 1) := dx_79 (dl_at 32 28 lb_X12_setRoutes_1 rfl)
theorem dX12_setRoutes_61 : decode cX12_setRoutes 61 = .ok (.aload_n 0, 1) := dx_42 (dl_at 32 29 lb_X12_setRoutes_1 rfl)
theorem dX12_setRoutes_62 : decode cX12_setRoutes 62 = .ok (.iconst 1, 1) := dx_4 (dl_at 32 30 lb_X12_setRoutes_1 rfl)
theorem dX12_setRoutes_63 : decode cX12_setRoutes 63 = .ok (.iconst 1, 1) := dx_4 (dl_at 32 31 lb_X12_setRoutes_1 rfl)
theorem dX12_setRoutes_64 : decode cX12_setRoutes 64 = .ok (.iload_n 2, 1) := dx_28 (dl_at 64 0 lb_X12_setRoutes_2 rfl)
theorem dX12_setRoutes_65 : decode cX12_setRoutes 65 = .ok (.ishl, 1) := dx_120 (dl_at 64 1 lb_X12_setRoutes_2 rfl)
theorem dX12_setRoutes_66 : decode cX12_setRoutes 66 = .ok (.iload 4, 2) := dx_21 (dl_at 64 2 lb_X12_setRoutes_2 rfl) (dl_at 64 3 lb_X12_setRoutes_2 rfl)
theorem dX12_setRoutes_68 : decode cX12_setRoutes 68 = .ok (.invokevirtual 251, 3) := dx_182 (a := 0) (b := 251) (dl_at 64 4 lb_X12_setRoutes_2 rfl) (dl_at 64 5 lb_X12_setRoutes_2 rfl) (dl_at 64 6 lb_X12_setRoutes_2 rfl) rfl
theorem dX12_setRoutes_71 : decode cX12_setRoutes 71 = .ok (.return_, 1) := dx_177 (dl_at 64 7 lb_X12_setRoutes_2 rfl)
theorem lb_X12_routesOf_0 : dl_ck (cX12_routesOf.data.toList.drop 0) [42, 27, 42, 27, 8, 182, 0, 161, 42, 27, 4, 182, 0, 161, 42, 27, 16, 6, 182, 0, 161, 182, 0, 255, 177] = true := by decide +kernel
theorem dX12_routesOf_0 : decode cX12_routesOf 0 = .ok (.aload_n 0, 1) := dx_42 (dl_at 0 0 lb_X12_routesOf_0 rfl)
theorem dX12_routesOf_1 : decode cX12_routesOf 1 = .ok (.iload_n 1, 1) := dx_27 (dl_at 0 1 lb_X12_routesOf_0 rfl)
theorem dX12_routesOf_2 : decode cX12_routesOf 2 = .ok (.aload_n 0, 1) := dx_42 (dl_at 0 2 lb_X12_routesOf_0 rfl)
theorem dX12_routesOf_3 : decode cX12_routesOf 3 = .ok (.iload_n 1, 1) := dx_27 (dl_at 0 3 lb_X12_routesOf_0 rfl)
theorem dX12_routesOf_4 : decode cX12_routesOf 4 = .ok (.iconst 5, 1) := dx_8 (dl_at 0 4 lb_X12_routesOf_0 rfl)
theorem dX12_routesOf_5 : decode cX12_routesOf 5 = .ok (.invokevirtual 161, 3) := dx_182 (a := 0) (b := 161) (dl_at 0 5 lb_X12_routesOf_0 rfl) (dl_at 0 6 lb_X12_routesOf_0 rfl) (dl_at 0 7 lb_X12_routesOf_0 rfl) rfl
theorem dX12_routesOf_8 : decode cX12_routesOf 8 = .ok (.aload_n 0, 1) := dx_42 (dl_at 0 8 lb_X12_routesOf_0 rfl)
theorem dX12_routesOf_9 : decode cX12_routesOf 9 = .ok (.iload_n 1, 1) := dx_27 (dl_at 0 9 lb_X12_routesOf_0 rfl)
theorem dX12_routesOf_10 : decode cX12_routesOf 10 = .ok (.iconst 1, 1) := dx_4 (dl_at 0 10 lb_X12_routesOf_0 rfl)
theorem dX12_routesOf_11 : decode cX12_routesOf 11 = .ok (.invokevirtual 161, 3) := dx_182 (a := 0) (b := 161) (dl_at 0 11 lb_X12_routesOf_0 rfl) (dl_at 0 12 lb_X12_routesOf_0 rfl) (dl_at 0 13 lb_X12_routesOf_0 rfl) rfl
theorem dX12_routesOf_14 : decode cX12_routesOf 14 = .ok (.aload_n 0, 1) := dx_42 (dl_at 0 14 lb_X12_routesOf_0 rfl)
theorem dX12_routesOf_15 : decode cX12_routesOf 15 = .ok (.iload_n 1, 1) := dx_27 (dl_at 0 15 lb_X12_routesOf_0 rfl)
theorem dX12_routesOf_16 : decode cX12_routesOf 16 = .ok (.bipush 6, 2) := dx_16 (dl_at 0 16 lb_X12_routesOf_0 rfl) (dl_at 0 17 lb_X12_routesOf_0 rfl) sg8_6
theorem dX12_routesOf_18 : decode cX12_routesOf 18 = .ok (.invokevirtual 161, 3) := dx_182 (a := 0) (b := 161) (dl_at 0 18 lb_X12_routesOf_0 rfl) (dl_at 0 19 lb_X12_routesOf_0 rfl) (dl_at 0 20 lb_X12_routesOf_0 rfl) rfl
theorem dX12_routesOf_21 : decode cX12_routesOf 21 = .ok (.invokevirtual 255, 3) := dx_182 (a := 0) (b := 255) (dl_at 0 21 lb_X12_routesOf_0 rfl) (dl_at 0 22 lb_X12_routesOf_0 rfl) (dl_at 0 23 lb_X12_routesOf_0 rfl) rfl
theorem dX12_routesOf_24 : decode cX12_routesOf 24 = .ok (.return_, 1) := dx_177 (dl_at 0 24 lb_X12_routesOf_0 rfl)
theorem lb_X12_askedRoutes_0 : dl_ck (cX12_askedRoutes.data.toList.drop 0) [42, 27, 182, 0, 197, 61, 28, 156, 0, 5, 28, 172, 42, 27, 182, 0, 164, 153, 0, 6, 16, 252, 172, 42, 4, 181, 0, 241, 42, 27, 182, 1] = true := by decide +kernel
theorem lb_X12_askedRoutes_1 : dl_ck (cX12_askedRoutes.data.toList.drop 32) [3, 3, 172] = true := by decide +kernel
theorem dX12_askedRoutes_0 : decode cX12_askedRoutes 0 = .ok (.aload_n 0, 1) := dx_42 (dl_at 0 0 lb_X12_askedRoutes_0 rfl)
theorem dX12_askedRoutes_1 : decode cX12_askedRoutes 1 = .ok (.iload_n 1, 1) := dx_27 (dl_at 0 1 lb_X12_askedRoutes_0 rfl)
theorem dX12_askedRoutes_2 : decode cX12_askedRoutes 2 = .ok (.invokevirtual 197, 3) := dx_182 (a := 0) (b := 197) (dl_at 0 2 lb_X12_askedRoutes_0 rfl) (dl_at 0 3 lb_X12_askedRoutes_0 rfl) (dl_at 0 4 lb_X12_askedRoutes_0 rfl) rfl
theorem dX12_askedRoutes_5 : decode cX12_askedRoutes 5 = .ok (.istore_n 2, 1) := dx_61 (dl_at 0 5 lb_X12_askedRoutes_0 rfl)
theorem dX12_askedRoutes_6 : decode cX12_askedRoutes 6 = .ok (.iload_n 2, 1) := dx_28 (dl_at 0 6 lb_X12_askedRoutes_0 rfl)
theorem dX12_askedRoutes_7 : decode cX12_askedRoutes 7 = .ok (.ifCond .ge 5, 3) := dx_156 (a := 0) (b := 5) (dl_at 0 7 lb_X12_askedRoutes_0 rfl) (dl_at 0 8 lb_X12_askedRoutes_0 rfl) (dl_at 0 9 lb_X12_askedRoutes_0 rfl) sg16_5
theorem dX12_askedRoutes_12 : decode cX12_askedRoutes 12 = .ok (.aload_n 0, 1) := dx_42 (dl_at 0 12 lb_X12_askedRoutes_0 rfl)
theorem dX12_askedRoutes_13 : decode cX12_askedRoutes 13 = .ok (.iload_n 1, 1) := dx_27 (dl_at 0 13 lb_X12_askedRoutes_0 rfl)
theorem dX12_askedRoutes_14 : decode cX12_askedRoutes 14 = .ok (.invokevirtual 164, 3) := dx_182 (a := 0) (b := 164) (dl_at 0 14 lb_X12_askedRoutes_0 rfl) (dl_at 0 15 lb_X12_askedRoutes_0 rfl) (dl_at 0 16 lb_X12_askedRoutes_0 rfl) rfl
theorem dX12_askedRoutes_17 : decode cX12_askedRoutes 17 = .ok (.ifCond .eq 6, 3) := dx_153 (a := 0) (b := 6) (dl_at 0 17 lb_X12_askedRoutes_0 rfl) (dl_at 0 18 lb_X12_askedRoutes_0 rfl) (dl_at 0 19 lb_X12_askedRoutes_0 rfl) sg16_6
theorem dX12_askedRoutes_23 : decode cX12_askedRoutes 23 = .ok (.aload_n 0, 1) := dx_42 (dl_at 0 23 lb_X12_askedRoutes_0 rfl)
theorem dX12_askedRoutes_24 : decode cX12_askedRoutes 24 = .ok (.iconst 1, 1) := dx_4 (dl_at 0 24 lb_X12_askedRoutes_0 rfl)
theorem dX12_askedRoutes_25 : decode cX12_askedRoutes 25 = .ok (.putfield 241, 3) := dx_181 (a := 0) (b := 241) (dl_at 0 25 lb_X12_askedRoutes_0 rfl) (dl_at 0 26 lb_X12_askedRoutes_0 rfl) (dl_at 0 27 lb_X12_askedRoutes_0 rfl) rfl
theorem dX12_askedRoutes_28 : decode cX12_askedRoutes 28 = .ok (.aload_n 0, 1) := dx_42 (dl_at 0 28 lb_X12_askedRoutes_0 rfl)
theorem dX12_askedRoutes_29 : decode cX12_askedRoutes 29 = .ok (.iload_n 1, 1) := dx_27 (dl_at 0 29 lb_X12_askedRoutes_0 rfl)
theorem dX12_askedRoutes_30 : decode cX12_askedRoutes 30 = .ok (.invokevirtual 259, 3) := dx_182 (a := 1) (b := 3) (dl_at 0 30 lb_X12_askedRoutes_0 rfl) (dl_at 0 31 lb_X12_askedRoutes_0 rfl) (dl_at 32 0 lb_X12_askedRoutes_1 rfl) rfl
theorem dX12_askedRoutes_33 : decode cX12_askedRoutes 33 = .ok (.iconst 0, 1) := dx_3 (dl_at 32 1 lb_X12_askedRoutes_1 rfl)
theorem dX12_askedRoutes_34 : decode cX12_askedRoutes 34 = .ok (.ireturn, 1) := dx_172 (dl_at 32 2 lb_X12_askedRoutes_1 rfl)
theorem dX12_askedRoutes_20 : decode cX12_askedRoutes 20 = .ok (.bipush (-4), 2) := dx_16 (dl_at 0 20 lb_X12_askedRoutes_0 rfl) (dl_at 0 21 lb_X12_askedRoutes_0 rfl) sg8_252
theorem dX12_askedRoutes_22 : decode cX12_askedRoutes 22 = .ok (.ireturn, 1) := dx_172 (dl_at 0 22 lb_X12_askedRoutes_0 rfl)
theorem dX12_askedRoutes_10 : decode cX12_askedRoutes 10 = .ok (.iload_n 2, 1) := dx_28 (dl_at 0 10 lb_X12_askedRoutes_0 rfl)
theorem dX12_askedRoutes_11 : decode cX12_askedRoutes 11 = .ok (.ireturn, 1) := dx_172 (dl_at 0 11 lb_X12_askedRoutes_0 rfl)
theorem lb_X12_layRoute_0 : dl_ck (cX12_layRoute.data.toList.drop 0) [42, 27, 29, 182, 1, 7, 87, 3, 54, 4, 21, 4, 29, 162, 0, 20, 42, 27, 21, 4, 44, 21, 4, 46, 182, 0, 92, 132, 4, 1, 167, 255] = true := by decide +kernel
theorem lb_X12_layRoute_1 : dl_ck (cX12_layRoute.data.toList.drop 32) [236, 177] = true := by decide +kernel
theorem dX12_layRoute_0 : decode cX12_layRoute 0 = .ok (.aload_n 0, 1) := dx_42 (dl_at 0 0 lb_X12_layRoute_0 rfl)
theorem dX12_layRoute_1 : decode cX12_layRoute 1 = .ok (.iload_n 1, 1) := dx_27 (dl_at 0 1 lb_X12_layRoute_0 rfl)
theorem dX12_layRoute_2 : decode cX12_layRoute 2 = .ok (.iload_n 3, 1) := dx_29 (dl_at 0 2 lb_X12_layRoute_0 rfl)
theorem dX12_layRoute_3 : decode cX12_layRoute 3 = .ok (.invokevirtual 263, 3) := dx_182 (a := 1) (b := 7) (dl_at 0 3 lb_X12_layRoute_0 rfl) (dl_at 0 4 lb_X12_layRoute_0 rfl) (dl_at 0 5 lb_X12_layRoute_0 rfl) rfl
theorem dX12_layRoute_6 : decode cX12_layRoute 6 = .ok (.pop, 1) := dx_87 (dl_at 0 6 lb_X12_layRoute_0 rfl)
theorem dX12_layRoute_7 : decode cX12_layRoute 7 = .ok (.iconst 0, 1) := dx_3 (dl_at 0 7 lb_X12_layRoute_0 rfl)
theorem dX12_layRoute_8 : decode cX12_layRoute 8 = .ok (.istore 4, 2) := dx_54 (dl_at 0 8 lb_X12_layRoute_0 rfl) (dl_at 0 9 lb_X12_layRoute_0 rfl)
theorem dX12_layRoute_10 : decode cX12_layRoute 10 = .ok (.iload 4, 2) := dx_21 (dl_at 0 10 lb_X12_layRoute_0 rfl) (dl_at 0 11 lb_X12_layRoute_0 rfl)
theorem dX12_layRoute_12 : decode cX12_layRoute 12 = .ok (.iload_n 3, 1) := dx_29 (dl_at 0 12 lb_X12_layRoute_0 rfl)
theorem dX12_layRoute_13 : decode cX12_layRoute 13 = .ok (.if_icmp .ge 20, 3) := dx_162 (a := 0) (b := 20) (dl_at 0 13 lb_X12_layRoute_0 rfl) (dl_at 0 14 lb_X12_layRoute_0 rfl) (dl_at 0 15 lb_X12_layRoute_0 rfl) sg16_20
theorem dX12_layRoute_33 : decode cX12_layRoute 33 = .ok (.return_, 1) := dx_177 (dl_at 32 1 lb_X12_layRoute_1 rfl)
theorem dX12_layRoute_16 : decode cX12_layRoute 16 = .ok (.aload_n 0, 1) := dx_42 (dl_at 0 16 lb_X12_layRoute_0 rfl)
theorem dX12_layRoute_17 : decode cX12_layRoute 17 = .ok (.iload_n 1, 1) := dx_27 (dl_at 0 17 lb_X12_layRoute_0 rfl)
theorem dX12_layRoute_18 : decode cX12_layRoute 18 = .ok (.iload 4, 2) := dx_21 (dl_at 0 18 lb_X12_layRoute_0 rfl) (dl_at 0 19 lb_X12_layRoute_0 rfl)
theorem dX12_layRoute_20 : decode cX12_layRoute 20 = .ok (.aload_n 2, 1) := dx_44 (dl_at 0 20 lb_X12_layRoute_0 rfl)
theorem dX12_layRoute_21 : decode cX12_layRoute 21 = .ok (.iload 4, 2) := dx_21 (dl_at 0 21 lb_X12_layRoute_0 rfl) (dl_at 0 22 lb_X12_layRoute_0 rfl)
theorem dX12_layRoute_23 : decode cX12_layRoute 23 = .ok (.iaload, 1) := dx_46 (dl_at 0 23 lb_X12_layRoute_0 rfl)
theorem dX12_layRoute_24 : decode cX12_layRoute 24 = .ok (.invokevirtual 92, 3) := dx_182 (a := 0) (b := 92) (dl_at 0 24 lb_X12_layRoute_0 rfl) (dl_at 0 25 lb_X12_layRoute_0 rfl) (dl_at 0 26 lb_X12_layRoute_0 rfl) rfl
theorem dX12_layRoute_27 : decode cX12_layRoute 27 = .ok (.iinc 4 1, 3) := dx_132 (dl_at 0 27 lb_X12_layRoute_0 rfl) (dl_at 0 28 lb_X12_layRoute_0 rfl) (dl_at 0 29 lb_X12_layRoute_0 rfl) sg8_1
theorem dX12_layRoute_30 : decode cX12_layRoute 30 = .ok (.goto (-20), 3) := dx_167 (a := 255) (b := 236) (dl_at 0 30 lb_X12_layRoute_0 rfl) (dl_at 0 31 lb_X12_layRoute_0 rfl) (dl_at 32 0 lb_X12_layRoute_1 rfl) sg16_65516
def F_sm_setRoutes (mu : Nat → Nat → Int32) (vk : Int32) (vf : Int32) (vg : Int32) (vp : Int32) : Nat → Nat → Int32 :=
  LETV (mu 0 39 : Int32) fun y1 =>
  LETV (mu 0 33 : Int32) fun y2 =>
  LETV (mu 0 35 : Int32) fun y3 =>
  LETV (va_up mu 0 (upd (mu 0) 39 vk) : Nat → Nat → Int32) fun nu4 =>
  LETV (va_up nu4 0 (upd (nu4 0) 29 vg) : Nat → Nat → Int32) fun nu9 =>
  LETV (va_up nu9 0 (upd (nu9 0) 30 0) : Nat → Nat → Int32) fun nu15 =>
  LETV (va_up nu15 0 (upd (nu15 0) 31 1048576) : Nat → Nat → Int32) fun nu22 =>
  LETV (va_up nu22 0 (upd (nu22 0) 32 0) : Nat → Nat → Int32) fun nu30 =>
  LETV (va_up nu30 0 (upd (nu30 0) 33 0) : Nat → Nat → Int32) fun nu39 =>
  LETV (va_up nu39 0 (upd (nu39 0) 34 0) : Nat → Nat → Int32) fun nu48 =>
  LETV (va_up nu48 0 (upd (nu48 0) 35 1048576) : Nat → Nat → Int32) fun nu58 =>
  LETV (va_up nu58 0 (upd (nu58 0) 36 127) : Nat → Nat → Int32) fun nu68 =>
  LETV (va_up nu68 0 (upd (nu68 0) 37 1048576) : Nat → Nat → Int32) fun nu79 =>
  LETV (va_up nu79 16 (upd (nu79 16) (0 : Int32).toNatClampNeg vf) : Nat → Nat → Int32) fun nu91 =>
  LETV (1 <<< (vf &&& 31) : Int32) fun t103 =>
  LETV (F_sm_routeOn1 nu91 (t103 : Int32) (vp : Int32) : Nat → Nat → Int32) fun xi107 =>
  LETV (xi107 0 39 : Int32) fun y109 =>
  LETV (xi107 0 33 : Int32) fun y110 =>
  LETV (xi107 0 35 : Int32) fun y111 =>
  xi107
def F_sm_routesOf (mu : Nat → Nat → Int32) (vk : Int32) : Nat → Nat → Int32 :=
  LETV (mu 0 39 : Int32) fun y1 =>
  LETV (mu 0 33 : Int32) fun y2 =>
  LETV (mu 0 35 : Int32) fun y3 =>
  LETV (F_sm_letterOf5 mu (vk : Int32) : Int32) fun r4 =>
  LETV (F_sm_letterOf mu (vk : Int32) (1 : Int32) : Int32) fun r5 =>
  LETV (F_sm_letterOf mu (vk : Int32) (6 : Int32) : Int32) fun r6 =>
  LETV (F_sm_setRoutes mu (vk : Int32) (r4 : Int32) (r5 : Int32) (r6 : Int32) : Nat → Nat → Int32) fun xi7 =>
  LETV (xi7 0 39 : Int32) fun y9 =>
  LETV (xi7 0 33 : Int32) fun y10 =>
  LETV (xi7 0 35 : Int32) fun y11 =>
  xi7
def F_sm_askedRoutes (mu : Nat → Nat → Int32) (vk : Int32) : Int32 × (Nat → Nat → Int32) :=
  LETV (mu 0 39 : Int32) fun y1 =>
  LETV (mu 0 33 : Int32) fun y2 =>
  LETV (mu 0 35 : Int32) fun y3 =>
  LETP (F_sm_askedLetter mu (vk : Int32)) fun r4 xi4 =>
  if r4 = 0 then (
    LETV (F_sm_isRead mu (vk : Int32) : Int32) fun r6 =>
    if r6 = (0 : Int32) then (
      LETV (va_up mu 0 (upd (mu 0) 38 1) : Nat → Nat → Int32) fun nu8 =>
      LETV (F_sm_routesOf nu8 (vk : Int32) : Nat → Nat → Int32) fun xi14 =>
      LETV (xi14 0 39 : Int32) fun y16 =>
      LETV (xi14 0 33 : Int32) fun y17 =>
      LETV (xi14 0 35 : Int32) fun y18 =>
      ((0 : Int32), xi14)
    ) else (
      (((-4) : Int32), mu)
    )
  ) else (
    ((r4 : Int32), xi4)
  )
def L_sm_layRoute17_10_0 (vn : Int32) (vr : Int32) : Nat → (Int32) → (Nat → Nat → Int32) → Nat → Nat → Int32
  | 0, v4_10, nu10_ => nu10_
  | n + 1, v4_10, nu10_ =>
    if v4_10 ≥ vn then (
      nu10_
    ) else (
      LETV (nu10_ 17 v4_10.toNatClampNeg : Int32) fun y4 =>
      LETV (F_sm_setRow nu10_ (vr : Int32) (v4_10 : Int32) (y4 : Int32) : Nat → Nat → Int32) fun xi5 =>
      LETV ((v4_10 + 1) : Int32) fun w7 =>
      L_sm_layRoute17_10_0 vn vr n (w7 : Int32) xi5
    )
def F_sm_layRoute17 (mu : Nat → Nat → Int32) (vr : Int32) (vn : Int32) : Nat → Nat → Int32 :=
  LETP (F_qm_row mu (vr : Int32) (vn : Int32)) fun r1 xi1 =>
  L_sm_layRoute17_10_0 vn vr 10 (0 : Int32) xi1
def L_sm_layRoute18_10_0 (vn : Int32) (vr : Int32) : Nat → (Int32) → (Nat → Nat → Int32) → Nat → Nat → Int32
  | 0, v4_10, nu10_ => nu10_
  | n + 1, v4_10, nu10_ =>
    if v4_10 ≥ vn then (
      nu10_
    ) else (
      LETV (nu10_ 18 v4_10.toNatClampNeg : Int32) fun y4 =>
      LETV (F_sm_setRow nu10_ (vr : Int32) (v4_10 : Int32) (y4 : Int32) : Nat → Nat → Int32) fun xi5 =>
      LETV ((v4_10 + 1) : Int32) fun w7 =>
      L_sm_layRoute18_10_0 vn vr n (w7 : Int32) xi5
    )
def F_sm_layRoute18 (mu : Nat → Nat → Int32) (vr : Int32) (vn : Int32) : Nat → Nat → Int32 :=
  LETP (F_qm_row mu (vr : Int32) (vn : Int32)) fun r1 xi1 =>
  L_sm_layRoute18_10_0 vn vr 10 (0 : Int32) xi1
set_option maxHeartbeats 4000000 in
set_option maxRecDepth 100000 in
/-- sm_setRoutes -/
theorem sm_setRoutes (l : Launch) (dC : Nat → ClassId) (dI : Nat → Nat → Nat) (cs : Nat → ClassId) (ad : Nat → Nat) (mu : Nat → Nat → Int32) (ok : okR loM hiM mu) (H : Heap) (hP : va_P (dC, dI) vwCl (wR 21 ad (EM cs ad) mu) H) (hD0 : va_D (fun _ => True) (wR 21 ad (EM cs ad) mu)) (vk : Int32) (vf : Int32) (vg : Int32) (vp : Int32) (hin0 : (vk.toInt = -9 ∨ (0 ≤ vk.toInt ∧ vk.toInt ≤ 3)) ∧ 0 ≤ vf.toInt ∧ vf.toInt ≤ 6) : Met l yX12_setRoutes (wU yX12_setRoutes cX12_setRoutes 5 none) ({ frames := 9, cells := 0, slots := 0, locals := 235 }) (va_Pc [.ref (ad 0), .int vk, .int vf, .int vg, .int vp] (sz_P (dC, dI) vwCl (tyM cs) H)) (va_Qv (fun (xi : Nat → Nat → Int32) => xi = F_sm_setRoutes mu vk vf vg vp ∧ okR loM hiM xi ∧ (((xi 0 39).toInt = -9 ∨ (0 ≤ (xi 0 39).toInt ∧ (xi 0 39).toInt ≤ 3)) ∧ ((xi 0 33).toInt = 0 ∨ (xi 0 35).toInt ≤ 7)) ∧ (∀ k f : Nat, Nat.testBit 510 (gpM k f) = true → xi k f = mu k f)) (fun xi t => va_P (dC, dI) vwCl (wR 21 ad (EM cs ad) xi) t.heap) (va_A (wR 21 ad (EM cs ad) mu) H.size)) 0 0 (va_A (wR 21 ad (EM cs ad) mu) H.size) := by
  refine Met.ofW (cc := cX12_setRoutes) (maxL := 5) (ret := none) (by decide) rfl ?_
  intro p e s m args below meth c s₁ B hml hv
  obtain ⟨rfl, hh, hK, hz⟩ := hv
  have hx := B.exec
  have hb := B.bytes
  have hr := B.returns
  have hts := atoms_spec (ws := (wU yX12_setRoutes cX12_setRoutes 5 none)) B.pre
  have hown : s.vm.findClass RX12 = some m.cls := findClass_of_methodNamed B.named
  have hlocks := B.notSynchronized
  subst hh
  have hD := hD0.self (sz := s.heap.size)
  have hA : ∀ q : Nat, s.heap.size ≤ q → (va_A (wR 21 ad (EM cs ad) mu) s.heap.size) q := fun q h => Or.inr h
  have hS : va_S (va_A (wR 21 ad (EM cs ad) mu) s.heap.size) s.heap s.heap [] := va_S.rf
  have hl := lv_entry ([.ref (ad 0), .int vk, .int vf, .int vg, .int vp]) (n := 5) (Nat.le_of_ble_eq_true rfl)
  rw [lg_entry_eq]
  generalize (lg_sl ([.ref (ad 0), .int vk, .int vf, .int vg, .int vp]) ++ List.replicate (5 - (lg_sl ([.ref (ad 0), .int vk, .int vf, .int vg, .int vp])).length) Slot.unset).toArray = ls at hl ⊢
  have hl : lv_has ls 5 [(0, .ref (ad 0)), (1, .int vk), (2, .int vf), (3, .int vg), (4, .int vp)] := hl
  obtain ⟨fz, hfz⟩ : ∃ z, F_sm_setRoutes mu vk vf vg vp = z := ⟨_, rfl⟩
  have hF := hfz
  unfold F_sm_setRoutes at hF
  obtain ⟨y1, ey1⟩ : ∃ z : Int32, z = mu 0 39 := ⟨_, rfl⟩
  have hF := mi_let hF ey1
  have by1 : y1.toInt = (mu 0 39).toInt := congrArg Int32.toInt ey1
  have gy1 : -9 ≤ y1.toInt ∧ y1.toInt ≤ 3 := by rw [ey1]; exact rM_0_39 ok
  obtain ⟨y2, ey2⟩ : ∃ z : Int32, z = mu 0 33 := ⟨_, rfl⟩
  have hF := mi_let hF ey2
  have by2 : y2.toInt = (mu 0 33).toInt := congrArg Int32.toInt ey2
  obtain ⟨y3, ey3⟩ : ∃ z : Int32, z = mu 0 35 := ⟨_, rfl⟩
  have hF := mi_let hF ey3
  have by3 : y3.toInt = (mu 0 35).toInt := congrArg Int32.toInt ey3
  refine lv_aload_n hx hb dX12_setRoutes_0 rfl (lv_at hl 0 rfl) ?_
  refine lv_iload_n hx hb dX12_setRoutes_1 rfl (lv_at hl 1 rfl) ?_
  refine va_put (D := (dC, dI)) (ci := 12) (v := .int vk) (ty := .int) (C := RX12) (T := TX12) (N := 46) hx hb hts inG12 tyX12 tyX12_ok nmX12 hown hK hP (wR_D mu hD) hS 0 (gM_0 cs ad mu) rfl 39 (by decide) (hts _ (List.mem_cons_of_mem _ mw_5_80)) (fun _ h9 => h9) rfl (by decide +kernel) rfl rfl (Nat.le_of_ble_eq_true rfl) dX12_setRoutes_2 (fun H locs hP _ hS => ?_)
  simp only [List.set_cons_succ, List.set_cons_zero] at hP
  refine wr_gen (upd (mu 0) 39 vk) hP ((hM_0_39 cs ad _ _)) (fun nu4 hn4 hP => ?_)
  have hF := mi_let hF hn4.symm
  have ok := tM_0_39 ok hn4 (by omega)
  have ez5 : y2 = nu4 0 33 := ey2.trans (up_f hn4 (by decide)).symm
  have ez6 : y3 = nu4 0 35 := ey3.trans (up_f hn4 (by decide)).symm
  have kp7 : (∀ k f : Nat, Nat.testBit 510 (gpM k f) = true → nu4 k f = mu k f) := kp_f hn4 (by decide) (fun _ _ _ => rfl)
  have ez8 : vk = nu4 0 39 := up_v hn4
  refine lv_aload_n hx hb dX12_setRoutes_5 rfl (lv_at hl 0 rfl) ?_
  refine lv_iload_n hx hb dX12_setRoutes_6 rfl (lv_at hl 3 rfl) ?_
  refine va_put (D := (dC, dI)) (ci := 12) (v := .int vg) (ty := .int) (C := RX12) (T := TX12) (N := 46) hx hb hts inG12 tyX12 tyX12_ok nmX12 hown hK hP (wR_D nu4 hD) hS 0 (gM_0 cs ad nu4) rfl 29 (by decide) (hts _ (List.mem_cons_of_mem _ mw_5_70)) (fun _ h9 => h9) rfl (by decide +kernel) rfl rfl (Nat.le_of_ble_eq_true rfl) dX12_setRoutes_7 (fun H locs hP _ hS => ?_)
  simp only [List.set_cons_succ, List.set_cons_zero] at hP
  refine wr_gen (upd (nu4 0) 29 vg) hP ((hM_0_29 cs ad _ _)) (fun nu9 hn9 hP => ?_)
  have hF := mi_let hF hn9.symm
  have ok := tM_0_29 ok hn9
  have ez10 : y2 = nu9 0 33 := ez5.trans (up_f hn9 (by decide)).symm
  have ez11 : y3 = nu9 0 35 := ez6.trans (up_f hn9 (by decide)).symm
  have ez12 : vk = nu9 0 39 := ez8.trans (up_f hn9 (by decide)).symm
  have kp13 : (∀ k f : Nat, Nat.testBit 510 (gpM k f) = true → nu9 k f = mu k f) := kp_f hn9 (by decide) kp7
  have ez14 : vg = nu9 0 29 := up_v hn9
  refine lv_aload_n hx hb dX12_setRoutes_10 rfl (lv_at hl 0 rfl) ?_
  refine lv_iconst (v := 0) hx hb dX12_setRoutes_11 (by decide) ?_
  refine va_put (D := (dC, dI)) (ci := 12) (v := .int 0) (ty := .int) (C := RX12) (T := TX12) (N := 46) hx hb hts inG12 tyX12 tyX12_ok nmX12 hown hK hP (wR_D nu9 hD) hS 0 (gM_0 cs ad nu9) rfl 30 (by decide) (hts _ (List.mem_cons_of_mem _ mw_5_71)) (fun _ h9 => h9) rfl (by decide +kernel) rfl rfl (Nat.le_of_ble_eq_true rfl) dX12_setRoutes_12 (fun H locs hP _ hS => ?_)
  simp only [List.set_cons_succ, List.set_cons_zero] at hP
  refine wr_gen (upd (nu9 0) 30 0) hP ((hM_0_30 cs ad _ _)) (fun nu15 hn15 hP => ?_)
  have hF := mi_let hF hn15.symm
  have ok := tM_0_30 ok hn15
  have ez16 : y2 = nu15 0 33 := ez10.trans (up_f hn15 (by decide)).symm
  have ez17 : y3 = nu15 0 35 := ez11.trans (up_f hn15 (by decide)).symm
  have ez18 : vk = nu15 0 39 := ez12.trans (up_f hn15 (by decide)).symm
  have ez19 : vg = nu15 0 29 := ez14.trans (up_f hn15 (by decide)).symm
  have kp20 : (∀ k f : Nat, Nat.testBit 510 (gpM k f) = true → nu15 k f = mu k f) := kp_f hn15 (by decide) kp13
  have ez21 : 0 = nu15 0 30 := up_v hn15
  refine lv_aload_n hx hb dX12_setRoutes_15 rfl (lv_at hl 0 rfl) ?_
  refine lv_ldc (v := 1048576) hx hb hown (hts _ (List.mem_cons_of_mem _ mw_6_179)) dX12_setRoutes_16 ?_
  refine va_put (D := (dC, dI)) (ci := 12) (v := .int 1048576) (ty := .int) (C := RX12) (T := TX12) (N := 46) hx hb hts inG12 tyX12 tyX12_ok nmX12 hown hK hP (wR_D nu15 hD) hS 0 (gM_0 cs ad nu15) rfl 31 (by decide) (hts _ (List.mem_cons_of_mem _ mw_5_72)) (fun _ h9 => h9) rfl (by decide +kernel) rfl rfl (Nat.le_of_ble_eq_true rfl) dX12_setRoutes_18 (fun H locs hP _ hS => ?_)
  simp only [List.set_cons_succ, List.set_cons_zero] at hP
  refine wr_gen (upd (nu15 0) 31 1048576) hP ((hM_0_31 cs ad _ _)) (fun nu22 hn22 hP => ?_)
  have hF := mi_let hF hn22.symm
  have ok := tM_0_31 ok hn22
  have ez23 : y2 = nu22 0 33 := ez16.trans (up_f hn22 (by decide)).symm
  have ez24 : y3 = nu22 0 35 := ez17.trans (up_f hn22 (by decide)).symm
  have ez25 : vk = nu22 0 39 := ez18.trans (up_f hn22 (by decide)).symm
  have ez26 : vg = nu22 0 29 := ez19.trans (up_f hn22 (by decide)).symm
  have ez27 : 0 = nu22 0 30 := ez21.trans (up_f hn22 (by decide)).symm
  have kp28 : (∀ k f : Nat, Nat.testBit 510 (gpM k f) = true → nu22 k f = mu k f) := kp_f hn22 (by decide) kp20
  have ez29 : 1048576 = nu22 0 31 := up_v hn22
  refine lv_aload_n hx hb dX12_setRoutes_21 rfl (lv_at hl 0 rfl) ?_
  refine lv_iconst (v := 0) hx hb dX12_setRoutes_22 (by decide) ?_
  refine va_put (D := (dC, dI)) (ci := 12) (v := .int 0) (ty := .int) (C := RX12) (T := TX12) (N := 46) hx hb hts inG12 tyX12 tyX12_ok nmX12 hown hK hP (wR_D nu22 hD) hS 0 (gM_0 cs ad nu22) rfl 32 (by decide) (hts _ (List.mem_cons_of_mem _ mw_5_73)) (fun _ h9 => h9) rfl (by decide +kernel) rfl rfl (Nat.le_of_ble_eq_true rfl) dX12_setRoutes_23 (fun H locs hP _ hS => ?_)
  simp only [List.set_cons_succ, List.set_cons_zero] at hP
  refine wr_gen (upd (nu22 0) 32 0) hP ((hM_0_32 cs ad _ _)) (fun nu30 hn30 hP => ?_)
  have hF := mi_let hF hn30.symm
  have ok := tM_0_32 ok hn30 (by have h9 : (0 : Int32).toInt = 0 := rfl; exact ⟨by omega, by omega⟩)
  have ez31 : y2 = nu30 0 33 := ez23.trans (up_f hn30 (by decide)).symm
  have ez32 : y3 = nu30 0 35 := ez24.trans (up_f hn30 (by decide)).symm
  have ez33 : vk = nu30 0 39 := ez25.trans (up_f hn30 (by decide)).symm
  have ez34 : vg = nu30 0 29 := ez26.trans (up_f hn30 (by decide)).symm
  have ez35 : 0 = nu30 0 30 := ez27.trans (up_f hn30 (by decide)).symm
  have ez36 : 1048576 = nu30 0 31 := ez29.trans (up_f hn30 (by decide)).symm
  have kp37 : (∀ k f : Nat, Nat.testBit 510 (gpM k f) = true → nu30 k f = mu k f) := kp_f hn30 (by decide) kp28
  have ez38 : 0 = nu30 0 32 := up_v hn30
  refine lv_aload_n hx hb dX12_setRoutes_26 rfl (lv_at hl 0 rfl) ?_
  refine lv_iconst (v := 0) hx hb dX12_setRoutes_27 (by decide) ?_
  refine va_put (D := (dC, dI)) (ci := 12) (v := .int 0) (ty := .int) (C := RX12) (T := TX12) (N := 46) hx hb hts inG12 tyX12 tyX12_ok nmX12 hown hK hP (wR_D nu30 hD) hS 0 (gM_0 cs ad nu30) rfl 33 (by decide) (hts _ (List.mem_cons_of_mem _ mw_5_74)) (fun _ h9 => h9) rfl (by decide +kernel) rfl rfl (Nat.le_of_ble_eq_true rfl) dX12_setRoutes_28 (fun H locs hP _ hS => ?_)
  simp only [List.set_cons_succ, List.set_cons_zero] at hP
  refine wr_gen (upd (nu30 0) 33 0) hP ((hM_0_33 cs ad _ _)) (fun nu39 hn39 hP => ?_)
  have hF := mi_let hF hn39.symm
  have ok := tM_0_33 ok hn39
  have ez40 : y3 = nu39 0 35 := ez32.trans (up_f hn39 (by decide)).symm
  have ez41 : vk = nu39 0 39 := ez33.trans (up_f hn39 (by decide)).symm
  have ez42 : vg = nu39 0 29 := ez34.trans (up_f hn39 (by decide)).symm
  have ez43 : 0 = nu39 0 30 := ez35.trans (up_f hn39 (by decide)).symm
  have ez44 : 1048576 = nu39 0 31 := ez36.trans (up_f hn39 (by decide)).symm
  have ez45 : 0 = nu39 0 32 := ez38.trans (up_f hn39 (by decide)).symm
  have kp46 : (∀ k f : Nat, Nat.testBit 510 (gpM k f) = true → nu39 k f = mu k f) := kp_f hn39 (by decide) kp37
  have ez47 : 0 = nu39 0 33 := up_v hn39
  refine lv_aload_n hx hb dX12_setRoutes_31 rfl (lv_at hl 0 rfl) ?_
  refine lv_iconst (v := 0) hx hb dX12_setRoutes_32 (by decide) ?_
  refine va_put (D := (dC, dI)) (ci := 12) (v := .int 0) (ty := .int) (C := RX12) (T := TX12) (N := 46) hx hb hts inG12 tyX12 tyX12_ok nmX12 hown hK hP (wR_D nu39 hD) hS 0 (gM_0 cs ad nu39) rfl 34 (by decide) (hts _ (List.mem_cons_of_mem _ mw_5_75)) (fun _ h9 => h9) rfl (by decide +kernel) rfl rfl (Nat.le_of_ble_eq_true rfl) dX12_setRoutes_33 (fun H locs hP _ hS => ?_)
  simp only [List.set_cons_succ, List.set_cons_zero] at hP
  refine wr_gen (upd (nu39 0) 34 0) hP ((hM_0_34 cs ad _ _)) (fun nu48 hn48 hP => ?_)
  have hF := mi_let hF hn48.symm
  have ok := tM_0_34 ok hn48
  have ez49 : y3 = nu48 0 35 := ez40.trans (up_f hn48 (by decide)).symm
  have ez50 : vk = nu48 0 39 := ez41.trans (up_f hn48 (by decide)).symm
  have ez51 : vg = nu48 0 29 := ez42.trans (up_f hn48 (by decide)).symm
  have ez52 : 0 = nu48 0 30 := ez43.trans (up_f hn48 (by decide)).symm
  have ez53 : 1048576 = nu48 0 31 := ez44.trans (up_f hn48 (by decide)).symm
  have ez54 : 0 = nu48 0 32 := ez45.trans (up_f hn48 (by decide)).symm
  have ez55 : 0 = nu48 0 33 := ez47.trans (up_f hn48 (by decide)).symm
  have kp56 : (∀ k f : Nat, Nat.testBit 510 (gpM k f) = true → nu48 k f = mu k f) := kp_f hn48 (by decide) kp46
  have ez57 : 0 = nu48 0 34 := up_v hn48
  refine lv_aload_n hx hb dX12_setRoutes_36 rfl (lv_at hl 0 rfl) ?_
  refine lv_ldc (v := 1048576) hx hb hown (hts _ (List.mem_cons_of_mem _ mw_6_179)) dX12_setRoutes_37 ?_
  refine va_put (D := (dC, dI)) (ci := 12) (v := .int 1048576) (ty := .int) (C := RX12) (T := TX12) (N := 46) hx hb hts inG12 tyX12 tyX12_ok nmX12 hown hK hP (wR_D nu48 hD) hS 0 (gM_0 cs ad nu48) rfl 35 (by decide) (hts _ (List.mem_cons_of_mem _ mw_5_76)) (fun _ h9 => h9) rfl (by decide +kernel) rfl rfl (Nat.le_of_ble_eq_true rfl) dX12_setRoutes_39 (fun H locs hP _ hS => ?_)
  simp only [List.set_cons_succ, List.set_cons_zero] at hP
  refine wr_gen (upd (nu48 0) 35 1048576) hP ((hM_0_35 cs ad _ _)) (fun nu58 hn58 hP => ?_)
  have hF := mi_let hF hn58.symm
  have ok := tM_0_35 ok hn58
  have ez59 : vk = nu58 0 39 := ez50.trans (up_f hn58 (by decide)).symm
  have ez60 : vg = nu58 0 29 := ez51.trans (up_f hn58 (by decide)).symm
  have ez61 : 0 = nu58 0 30 := ez52.trans (up_f hn58 (by decide)).symm
  have ez62 : 1048576 = nu58 0 31 := ez53.trans (up_f hn58 (by decide)).symm
  have ez63 : 0 = nu58 0 32 := ez54.trans (up_f hn58 (by decide)).symm
  have ez64 : 0 = nu58 0 33 := ez55.trans (up_f hn58 (by decide)).symm
  have ez65 : 0 = nu58 0 34 := ez57.trans (up_f hn58 (by decide)).symm
  have kp66 : (∀ k f : Nat, Nat.testBit 510 (gpM k f) = true → nu58 k f = mu k f) := kp_f hn58 (by decide) kp56
  have ez67 : 1048576 = nu58 0 35 := up_v hn58
  refine lv_aload_n hx hb dX12_setRoutes_42 rfl (lv_at hl 0 rfl) ?_
  refine lv_bipush (v := 127) hx hb dX12_setRoutes_43 (by decide) ?_
  refine va_put (D := (dC, dI)) (ci := 12) (v := .int 127) (ty := .int) (C := RX12) (T := TX12) (N := 46) hx hb hts inG12 tyX12 tyX12_ok nmX12 hown hK hP (wR_D nu58 hD) hS 0 (gM_0 cs ad nu58) rfl 36 (by decide) (hts _ (List.mem_cons_of_mem _ mw_5_77)) (fun _ h9 => h9) rfl (by decide +kernel) rfl rfl (Nat.le_of_ble_eq_true rfl) dX12_setRoutes_45 (fun H locs hP _ hS => ?_)
  simp only [List.set_cons_succ, List.set_cons_zero] at hP
  refine wr_gen (upd (nu58 0) 36 127) hP ((hM_0_36 cs ad _ _)) (fun nu68 hn68 hP => ?_)
  have hF := mi_let hF hn68.symm
  have ok := tM_0_36 ok hn68
  have ez69 : vk = nu68 0 39 := ez59.trans (up_f hn68 (by decide)).symm
  have ez70 : vg = nu68 0 29 := ez60.trans (up_f hn68 (by decide)).symm
  have ez71 : 0 = nu68 0 30 := ez61.trans (up_f hn68 (by decide)).symm
  have ez72 : 1048576 = nu68 0 31 := ez62.trans (up_f hn68 (by decide)).symm
  have ez73 : 0 = nu68 0 32 := ez63.trans (up_f hn68 (by decide)).symm
  have ez74 : 0 = nu68 0 33 := ez64.trans (up_f hn68 (by decide)).symm
  have ez75 : 0 = nu68 0 34 := ez65.trans (up_f hn68 (by decide)).symm
  have ez76 : 1048576 = nu68 0 35 := ez67.trans (up_f hn68 (by decide)).symm
  have kp77 : (∀ k f : Nat, Nat.testBit 510 (gpM k f) = true → nu68 k f = mu k f) := kp_f hn68 (by decide) kp66
  have ez78 : 127 = nu68 0 36 := up_v hn68
  refine lv_aload_n hx hb dX12_setRoutes_48 rfl (lv_at hl 0 rfl) ?_
  refine lv_ldc (v := 1048576) hx hb hown (hts _ (List.mem_cons_of_mem _ mw_6_179)) dX12_setRoutes_49 ?_
  refine va_put (D := (dC, dI)) (ci := 12) (v := .int 1048576) (ty := .int) (C := RX12) (T := TX12) (N := 46) hx hb hts inG12 tyX12 tyX12_ok nmX12 hown hK hP (wR_D nu68 hD) hS 0 (gM_0 cs ad nu68) rfl 37 (by decide) (hts _ (List.mem_cons_of_mem _ mw_5_78)) (fun _ h9 => h9) rfl (by decide +kernel) rfl rfl (Nat.le_of_ble_eq_true rfl) dX12_setRoutes_51 (fun H locs hP _ hS => ?_)
  simp only [List.set_cons_succ, List.set_cons_zero] at hP
  refine wr_gen (upd (nu68 0) 37 1048576) hP ((hM_0_37 cs ad _ _)) (fun nu79 hn79 hP => ?_)
  have hF := mi_let hF hn79.symm
  have ok := tM_0_37 ok hn79
  have ez80 : vk = nu79 0 39 := ez69.trans (up_f hn79 (by decide)).symm
  have ez81 : vg = nu79 0 29 := ez70.trans (up_f hn79 (by decide)).symm
  have ez82 : 0 = nu79 0 30 := ez71.trans (up_f hn79 (by decide)).symm
  have ez83 : 1048576 = nu79 0 31 := ez72.trans (up_f hn79 (by decide)).symm
  have ez84 : 0 = nu79 0 32 := ez73.trans (up_f hn79 (by decide)).symm
  have ez85 : 0 = nu79 0 33 := ez74.trans (up_f hn79 (by decide)).symm
  have ez86 : 0 = nu79 0 34 := ez75.trans (up_f hn79 (by decide)).symm
  have ez87 : 1048576 = nu79 0 35 := ez76.trans (up_f hn79 (by decide)).symm
  have ez88 : 127 = nu79 0 36 := ez78.trans (up_f hn79 (by decide)).symm
  have kp89 : (∀ k f : Nat, Nat.testBit 510 (gpM k f) = true → nu79 k f = mu k f) := kp_f hn79 (by decide) kp77
  have ez90 : 1048576 = nu79 0 37 := up_v hn79
  refine lv_aload_n hx hb dX12_setRoutes_54 rfl (lv_at hl 0 rfl) ?_
  refine va_get (D := (dC, dI)) (ci := 12) (v := .ref (ad 16)) (C := RX12) (T := TX12) (N := 46) hx hb hts inG12 hown hK hP 0 (gM_0 cs ad nu79) rfl 26 (by decide) (hts _ (List.mem_cons_of_mem _ mw_5_67)) (fun _ h9 => h9) rfl dX12_setRoutes_55 ?_
  refine lv_iconst (v := 0) hx hb dX12_setRoutes_58 (by decide) ?_
  refine lv_iload_n hx hb dX12_setRoutes_59 rfl (lv_at hl 2 rfl) ?_
  refine va_iast hx hb hK hP (wR_D nu79 hD) hS 16 0 (gM_16 cs ad nu79) rfl (show vp_in 0 7 from (by unfold vp_in; decide)) dX12_setRoutes_60 (fun H locs hP _ hS => ?_)
  refine wr_gen (upd (nu79 16) (0 : Int32).toNatClampNeg vf) hP (rfl) (fun nu91 hn91 hP => ?_)
  have hF := mi_let hF hn91.symm
  have ok := tM_16_s ok (0 : Int32).toNatClampNeg hn91 (by omega)
  have ez92 : vk = nu91 0 39 := ez80.trans (congrFun (up_k hn91 (by decide)) 39).symm
  have ez93 : vg = nu91 0 29 := ez81.trans (congrFun (up_k hn91 (by decide)) 29).symm
  have ez94 : 0 = nu91 0 30 := ez82.trans (congrFun (up_k hn91 (by decide)) 30).symm
  have ez95 : 1048576 = nu91 0 31 := ez83.trans (congrFun (up_k hn91 (by decide)) 31).symm
  have ez96 : 0 = nu91 0 32 := ez84.trans (congrFun (up_k hn91 (by decide)) 32).symm
  have ez97 : 0 = nu91 0 33 := ez85.trans (congrFun (up_k hn91 (by decide)) 33).symm
  have ez98 : 0 = nu91 0 34 := ez86.trans (congrFun (up_k hn91 (by decide)) 34).symm
  have ez99 : 1048576 = nu91 0 35 := ez87.trans (congrFun (up_k hn91 (by decide)) 35).symm
  have ez100 : 127 = nu91 0 36 := ez88.trans (congrFun (up_k hn91 (by decide)) 36).symm
  have ez101 : 1048576 = nu91 0 37 := ez90.trans (congrFun (up_k hn91 (by decide)) 37).symm
  have kp102 : (∀ k f : Nat, Nat.testBit 510 (gpM k f) = true → nu91 k f = mu k f) := kp_c 0 hn91 (fun _ => rfl) (by decide) kp89
  refine lv_aload_n hx hb dX12_setRoutes_61 rfl (lv_at hl 0 rfl) ?_
  refine lv_iconst (v := 1) hx hb dX12_setRoutes_62 (by decide) ?_
  refine lv_iconst (v := 1) hx hb dX12_setRoutes_63 (by decide) ?_
  refine lv_iload_n hx hb dX12_setRoutes_64 rfl (lv_at hl 2 rfl) ?_
  refine lv_ishl hx hb dX12_setRoutes_65 ?_
  refine lv_topi (fun t103 et103 => ?_)
  have hF := mi_let hF et103
  refine lv_iload hx hb dX12_setRoutes_66 (lv_at hl 4 rfl) ?_
  have hFc := fr_all (wR_D nu91 hD) hS hA
  refine va_callv (va_runV (As := [.int 1, .int t103, .int vp]) (rest := []) ⟨hx, hb, hml, hown, hts⟩ (sm_routeOn1 l dC dI cs ad nu91 ok H hP ((wR_D nu91 hD).weaken (fun _ _ _ _ => trivial)) t103 vp (by have h50 : (1 : Int32).toInt = 1 := rfl; rw [et103]; exact h7_one (by omega) (by omega)) (by have h50 : (1 : Int32).toInt = 1 := rfl; have hb104 := congrArg Int32.toInt ez92; have hb105 : (nu91 0 33).toInt = 0 := (by rw [← ez97]; rfl); have hb106 : (nu91 0 35).toInt = 1048576 := (by rw [← ez99]; rfl); omega)) (cwV 3 hts (wU_V mw_6_183 mw_6_180 mw_6_182 mw_0_55 mw_1_13) rfl rfl rfl (by decide +kernel) ⟨Nat.le_of_ble_eq_true rfl, Nat.le_of_ble_eq_true rfl⟩) ⟨sz_c, va_recv hK hP (ci := 12) (q0 := 0) rfl (gM_0 cs ad nu91), sz_m hK hz⟩ rfl rfl hl.1 rfl (lv_room (Nat.le_of_ble_eq_true rfl)) dX12_setRoutes_68 ⟨Nat.zero_le _, Nat.zero_le _⟩) hS (fun q _ h => hFc q h) hFc (fun xi107 t H107 locs ht hvm hw107 hB hz1 hk1 hS => ?_)
  have hP : va_P (dC, dI) vwCl (wR 21 ad (EM cs ad) xi107) H107 := by rw [← ht]; exact hB
  obtain ⟨hfe107, ok, hw107, hkp107_0⟩ := hw107
  have hF := mi_let hF hfe107
  have kp108 : (∀ k f : Nat, Nat.testBit 510 (gpM k f) = true → xi107 k f = mu k f) := kp_t hkp107_0 (by decide) kp102
  obtain ⟨y109, ey109⟩ : ∃ z : Int32, z = xi107 0 39 := ⟨_, rfl⟩
  have hF := mi_let hF ey109
  have by109 : y109.toInt = (xi107 0 39).toInt := congrArg Int32.toInt ey109
  have gy109 : -9 ≤ y109.toInt ∧ y109.toInt ≤ 3 := by rw [ey109]; exact rM_0_39 ok
  obtain ⟨y110, ey110⟩ : ∃ z : Int32, z = xi107 0 33 := ⟨_, rfl⟩
  have hF := mi_let hF ey110
  have by110 : y110.toInt = (xi107 0 33).toInt := congrArg Int32.toInt ey110
  obtain ⟨y111, ey111⟩ : ∃ z : Int32, z = xi107 0 35 := ⟨_, rfl⟩
  have hF := mi_let hF ey111
  have by111 : y111.toInt = (xi107 0 35).toInt := congrArg Int32.toInt ey111
  have gr107 : ((xi107 0 39).toInt = -9 ∨ (0 ≤ (xi107 0 39).toInt ∧ (xi107 0 39).toInt ≤ 3)) ∧ ((xi107 0 33).toInt = 0 ∨ (xi107 0 35).toInt ≤ 7) := hw107
  exact W.vret hx hb hr (fun t ht hW => ⟨⟨xi107, rfl, ⟨hF.trans hfz.symm, ok, (by first | assumption | (have hb112 := congrArg Int32.toInt ey109; have hb113 := congrArg Int32.toInt ey110; have hb114 := congrArg Int32.toInt ey111; omega)), kp108⟩, by first | (subst ht; exact hP) | (rw [ht]; exact hP) | (show va_P (dC, dI) vwCl (wR 21 ad (EM cs ad) xi107) t.heap; rw [ht]; exact hP)⟩, hS.F ht⟩) hS.2.2 dX12_setRoutes_71
set_option maxHeartbeats 4000000 in
set_option maxRecDepth 100000 in
/-- sm_routesOf -/
theorem sm_routesOf (l : Launch) (dC : Nat → ClassId) (dI : Nat → Nat → Nat) (cs : Nat → ClassId) (ad : Nat → Nat) (mu : Nat → Nat → Int32) (ok : okR loM hiM mu) (H : Heap) (hP : va_P (dC, dI) vwCl (wR 21 ad (EM cs ad) mu) H) (hD0 : va_D (fun _ => True) (wR 21 ad (EM cs ad) mu)) (vk : Int32) (hin0 : 0 ≤ vk.toInt ∧ vk.toInt ≤ 3) : Met l yX12_routesOf (wU yX12_routesOf cX12_routesOf 2 none) ({ frames := 10, cells := 0, slots := 0, locals := 259 }) (va_Pc [.ref (ad 0), .int vk] (sz_P (dC, dI) vwCl (tyM cs) H)) (va_Qv (fun (xi : Nat → Nat → Int32) => xi = F_sm_routesOf mu vk ∧ okR loM hiM xi ∧ (((xi 0 39).toInt = -9 ∨ (0 ≤ (xi 0 39).toInt ∧ (xi 0 39).toInt ≤ 3)) ∧ ((xi 0 33).toInt = 0 ∨ (xi 0 35).toInt ≤ 7)) ∧ (∀ k f : Nat, Nat.testBit 510 (gpM k f) = true → xi k f = mu k f)) (fun xi t => va_P (dC, dI) vwCl (wR 21 ad (EM cs ad) xi) t.heap) (va_A (wR 21 ad (EM cs ad) mu) H.size)) 0 0 (va_A (wR 21 ad (EM cs ad) mu) H.size) := by
  refine Met.ofW (cc := cX12_routesOf) (maxL := 2) (ret := none) (by decide) rfl ?_
  intro p e s m args below meth c s₁ B hml hv
  obtain ⟨rfl, hh, hK, hz⟩ := hv
  have hx := B.exec
  have hb := B.bytes
  have hr := B.returns
  have hts := atoms_spec (ws := (wU yX12_routesOf cX12_routesOf 2 none)) B.pre
  have hown : s.vm.findClass RX12 = some m.cls := findClass_of_methodNamed B.named
  have hlocks := B.notSynchronized
  subst hh
  have hD := hD0.self (sz := s.heap.size)
  have hA : ∀ q : Nat, s.heap.size ≤ q → (va_A (wR 21 ad (EM cs ad) mu) s.heap.size) q := fun q h => Or.inr h
  have hS : va_S (va_A (wR 21 ad (EM cs ad) mu) s.heap.size) s.heap s.heap [] := va_S.rf
  have hl := lv_entry ([.ref (ad 0), .int vk]) (n := 2) (Nat.le_of_ble_eq_true rfl)
  rw [lg_entry_eq]
  generalize (lg_sl ([.ref (ad 0), .int vk]) ++ List.replicate (2 - (lg_sl ([.ref (ad 0), .int vk])).length) Slot.unset).toArray = ls at hl ⊢
  have hl : lv_has ls 2 [(0, .ref (ad 0)), (1, .int vk)] := hl
  obtain ⟨fz, hfz⟩ : ∃ z, F_sm_routesOf mu vk = z := ⟨_, rfl⟩
  have hF := hfz
  unfold F_sm_routesOf at hF
  obtain ⟨y1, ey1⟩ : ∃ z : Int32, z = mu 0 39 := ⟨_, rfl⟩
  have hF := mi_let hF ey1
  have by1 : y1.toInt = (mu 0 39).toInt := congrArg Int32.toInt ey1
  have gy1 : -9 ≤ y1.toInt ∧ y1.toInt ≤ 3 := by rw [ey1]; exact rM_0_39 ok
  obtain ⟨y2, ey2⟩ : ∃ z : Int32, z = mu 0 33 := ⟨_, rfl⟩
  have hF := mi_let hF ey2
  have by2 : y2.toInt = (mu 0 33).toInt := congrArg Int32.toInt ey2
  obtain ⟨y3, ey3⟩ : ∃ z : Int32, z = mu 0 35 := ⟨_, rfl⟩
  have hF := mi_let hF ey3
  have by3 : y3.toInt = (mu 0 35).toInt := congrArg Int32.toInt ey3
  refine lv_aload_n hx hb dX12_routesOf_0 rfl (lv_at hl 0 rfl) ?_
  refine lv_iload_n hx hb dX12_routesOf_1 rfl (lv_at hl 1 rfl) ?_
  refine lv_aload_n hx hb dX12_routesOf_2 rfl (lv_at hl 0 rfl) ?_
  refine lv_iload_n hx hb dX12_routesOf_3 rfl (lv_at hl 1 rfl) ?_
  refine lv_iconst (v := 5) hx hb dX12_routesOf_4 (by decide) ?_
  refine cr_i (va_runV (As := [.int vk, .int 5]) (rest := [.int vk, .ref (ad 0)]) ⟨hx, hb, hml, hown, hts⟩ (sm_letterOf5 l dC dI cs ad mu ok s.heap hP vk (by have h51 : (5 : Int32).toInt = 5 := rfl; omega)) (cwV 2 hts (wU_V mw_6_48 mw_6_45 mw_6_47 mw_0_38 mw_1_13) rfl rfl rfl (by decide +kernel) ⟨Nat.le_of_ble_eq_true rfl, Nat.le_of_ble_eq_true rfl⟩) ⟨sz_c, va_recv hK hP (ci := 12) (q0 := 0) rfl (gM_0 cs ad mu), sz_m hK hz⟩ rfl rfl hl.1 rfl (lv_room (Nat.le_of_ble_eq_true rfl)) dX12_routesOf_5 ⟨Nat.zero_le _, Nat.zero_le _⟩) hS (fun r4 hw4 locs hS => ?_)
  obtain ⟨hfe4, hw4⟩ := hw4
  have hF := mi_let hF hfe4
  have gr4 : 0 ≤ r4.toInt ∧ r4.toInt ≤ 6 := hw4
  refine lv_aload_n hx hb dX12_routesOf_8 rfl (lv_at hl 0 rfl) ?_
  refine lv_iload_n hx hb dX12_routesOf_9 rfl (lv_at hl 1 rfl) ?_
  refine lv_iconst (v := 1) hx hb dX12_routesOf_10 (by decide) ?_
  refine cr_i (va_runV (As := [.int vk, .int 1]) (rest := [.int r4, .int vk, .ref (ad 0)]) ⟨hx, hb, hml, hown, hts⟩ (sm_letterOf l dC dI cs ad mu ok s.heap hP vk 1 (by have h51 : (1 : Int32).toInt = 1 := rfl; omega)) (cwV 2 hts (wU_V mw_6_48 mw_6_45 mw_6_47 mw_0_38 mw_1_13) rfl rfl rfl (by decide +kernel) ⟨Nat.le_of_ble_eq_true rfl, Nat.le_of_ble_eq_true rfl⟩) ⟨sz_c, va_recv hK hP (ci := 12) (q0 := 0) rfl (gM_0 cs ad mu), sz_m hK hz⟩ rfl rfl hl.1 rfl (lv_room (Nat.le_of_ble_eq_true rfl)) dX12_routesOf_11 ⟨Nat.zero_le _, Nat.zero_le _⟩) hS (fun r5 hw5 locs hS => ?_)
  obtain ⟨hfe5, hw5⟩ := hw5
  have hF := mi_let hF hfe5
  refine lv_aload_n hx hb dX12_routesOf_14 rfl (lv_at hl 0 rfl) ?_
  refine lv_iload_n hx hb dX12_routesOf_15 rfl (lv_at hl 1 rfl) ?_
  refine lv_bipush (v := 6) hx hb dX12_routesOf_16 (by decide) ?_
  refine cr_i (va_runV (As := [.int vk, .int 6]) (rest := [.int r5, .int r4, .int vk, .ref (ad 0)]) ⟨hx, hb, hml, hown, hts⟩ (sm_letterOf l dC dI cs ad mu ok s.heap hP vk 6 (by have h51 : (6 : Int32).toInt = 6 := rfl; omega)) (cwV 2 hts (wU_V mw_6_48 mw_6_45 mw_6_47 mw_0_38 mw_1_13) rfl rfl rfl (by decide +kernel) ⟨Nat.le_of_ble_eq_true rfl, Nat.le_of_ble_eq_true rfl⟩) ⟨sz_c, va_recv hK hP (ci := 12) (q0 := 0) rfl (gM_0 cs ad mu), sz_m hK hz⟩ rfl rfl hl.1 rfl (lv_room (Nat.le_of_ble_eq_true rfl)) dX12_routesOf_18 ⟨Nat.zero_le _, Nat.zero_le _⟩) hS (fun r6 hw6 locs hS => ?_)
  obtain ⟨hfe6, hw6⟩ := hw6
  have hF := mi_let hF hfe6
  have hFc := fr_all (wR_D mu hD) hS hA
  refine va_callv (va_runV (As := [.int vk, .int r4, .int r5, .int r6]) (rest := []) ⟨hx, hb, hml, hown, hts⟩ (sm_setRoutes l dC dI cs ad mu ok s.heap hP ((wR_D mu hD).weaken (fun _ _ _ _ => trivial)) vk r4 r5 r6 (by omega)) (cwV 4 hts (wU_V mw_6_178 mw_6_175 mw_6_177 mw_0_54 mw_1_13) rfl rfl rfl (by decide +kernel) ⟨Nat.le_of_ble_eq_true rfl, Nat.le_of_ble_eq_true rfl⟩) ⟨sz_c, va_recv hK hP (ci := 12) (q0 := 0) rfl (gM_0 cs ad mu), sz_m hK hz⟩ rfl rfl hl.1 rfl (lv_room (Nat.le_of_ble_eq_true rfl)) dX12_routesOf_21 ⟨Nat.zero_le _, Nat.zero_le _⟩) hS (fun q _ h => hFc q h) hFc (fun xi7 t H7 locs ht hvm hw7 hB hz1 hk1 hS => ?_)
  have hP : va_P (dC, dI) vwCl (wR 21 ad (EM cs ad) xi7) H7 := by rw [← ht]; exact hB
  obtain ⟨hfe7, ok, hw7, hkp7_0⟩ := hw7
  have hF := mi_let hF hfe7
  have kp8 : (∀ k f : Nat, Nat.testBit 510 (gpM k f) = true → xi7 k f = mu k f) := kp_t hkp7_0 (by decide) (fun _ _ _ => rfl)
  obtain ⟨y9, ey9⟩ : ∃ z : Int32, z = xi7 0 39 := ⟨_, rfl⟩
  have hF := mi_let hF ey9
  have by9 : y9.toInt = (xi7 0 39).toInt := congrArg Int32.toInt ey9
  have gy9 : -9 ≤ y9.toInt ∧ y9.toInt ≤ 3 := by rw [ey9]; exact rM_0_39 ok
  obtain ⟨y10, ey10⟩ : ∃ z : Int32, z = xi7 0 33 := ⟨_, rfl⟩
  have hF := mi_let hF ey10
  have by10 : y10.toInt = (xi7 0 33).toInt := congrArg Int32.toInt ey10
  obtain ⟨y11, ey11⟩ : ∃ z : Int32, z = xi7 0 35 := ⟨_, rfl⟩
  have hF := mi_let hF ey11
  have by11 : y11.toInt = (xi7 0 35).toInt := congrArg Int32.toInt ey11
  have gr7 : ((xi7 0 39).toInt = -9 ∨ (0 ≤ (xi7 0 39).toInt ∧ (xi7 0 39).toInt ≤ 3)) ∧ ((xi7 0 33).toInt = 0 ∨ (xi7 0 35).toInt ≤ 7) := hw7
  exact W.vret hx hb hr (fun t ht hW => ⟨⟨xi7, rfl, ⟨hF.trans hfz.symm, ok, (by first | assumption | (have hb12 := congrArg Int32.toInt ey9; have hb13 := congrArg Int32.toInt ey10; have hb14 := congrArg Int32.toInt ey11; omega)), kp8⟩, by first | (subst ht; exact hP) | (rw [ht]; exact hP) | (show va_P (dC, dI) vwCl (wR 21 ad (EM cs ad) xi7) t.heap; rw [ht]; exact hP)⟩, hS.F ht⟩) hS.2.2 dX12_routesOf_24
set_option maxHeartbeats 4000000 in
set_option maxRecDepth 100000 in
/-- sm_askedRoutes -/
theorem sm_askedRoutes (l : Launch) (dC : Nat → ClassId) (dI : Nat → Nat → Nat) (cs : Nat → ClassId) (ad : Nat → Nat) (mu : Nat → Nat → Int32) (ok : okR loM hiM mu) (H : Heap) (hP : va_P (dC, dI) vwCl (wR 21 ad (EM cs ad) mu) H) (hD0 : va_D (fun _ => True) (wR 21 ad (EM cs ad) mu)) (vk : Int32) : Met l yX12_askedRoutes (wU yX12_askedRoutes cX12_askedRoutes 3 (some .int)) ({ frames := 11, cells := 0, slots := 0, locals := 280 }) (va_Pc [.ref (ad 0), .int vk] (sz_P (dC, dI) vwCl (tyM cs) H)) (va_Qi (fun (z : Int32) (xi : Nat → Nat → Int32) => (z, xi) = F_sm_askedRoutes mu vk ∧ ((z = 0 ∧ okR loM hiM xi ∧ (0 ≤ vk.toInt ∧ vk.toInt ≤ 3 ∧ ((xi 0 33).toInt = 0 ∨ (xi 0 35).toInt ≤ 7)) ∧ (∀ k f : Nat, Nat.testBit 510 (gpM k f) = true → xi k f = mu k f)) ∨ (z.toInt < 0 ∧ okR loM hiM xi ∧ (∀ k f : Nat, Nat.testBit 510 (gpM k f) = true → xi k f = mu k f)))) (fun xi t => va_P (dC, dI) vwCl (wR 21 ad (EM cs ad) xi) t.heap) (va_A (wR 21 ad (EM cs ad) mu) H.size)) 0 0 (va_A (wR 21 ad (EM cs ad) mu) H.size) := by
  refine Met.ofW (cc := cX12_askedRoutes) (maxL := 3) (ret := (some .int)) (by decide) rfl ?_
  intro p e s m args below meth c s₁ B hml hv
  obtain ⟨rfl, hh, hK, hz⟩ := hv
  have hx := B.exec
  have hb := B.bytes
  have hr := B.returns
  have hts := atoms_spec (ws := (wU yX12_askedRoutes cX12_askedRoutes 3 (some .int))) B.pre
  have hown : s.vm.findClass RX12 = some m.cls := findClass_of_methodNamed B.named
  have hlocks := B.notSynchronized
  subst hh
  have hD := hD0.self (sz := s.heap.size)
  have hA : ∀ q : Nat, s.heap.size ≤ q → (va_A (wR 21 ad (EM cs ad) mu) s.heap.size) q := fun q h => Or.inr h
  have hS : va_S (va_A (wR 21 ad (EM cs ad) mu) s.heap.size) s.heap s.heap [] := va_S.rf
  have hl := lv_entry ([.ref (ad 0), .int vk]) (n := 3) (Nat.le_of_ble_eq_true rfl)
  rw [lg_entry_eq]
  generalize (lg_sl ([.ref (ad 0), .int vk]) ++ List.replicate (3 - (lg_sl ([.ref (ad 0), .int vk])).length) Slot.unset).toArray = ls at hl ⊢
  have hl : lv_has ls 3 [(0, .ref (ad 0)), (1, .int vk)] := hl
  obtain ⟨fz, hfz⟩ : ∃ z, F_sm_askedRoutes mu vk = z := ⟨_, rfl⟩
  have hF := hfz
  unfold F_sm_askedRoutes at hF
  obtain ⟨y1, ey1⟩ : ∃ z : Int32, z = mu 0 39 := ⟨_, rfl⟩
  have hF := mi_let hF ey1
  have by1 : y1.toInt = (mu 0 39).toInt := congrArg Int32.toInt ey1
  have gy1 : -9 ≤ y1.toInt ∧ y1.toInt ≤ 3 := by rw [ey1]; exact rM_0_39 ok
  obtain ⟨y2, ey2⟩ : ∃ z : Int32, z = mu 0 33 := ⟨_, rfl⟩
  have hF := mi_let hF ey2
  have by2 : y2.toInt = (mu 0 33).toInt := congrArg Int32.toInt ey2
  obtain ⟨y3, ey3⟩ : ∃ z : Int32, z = mu 0 35 := ⟨_, rfl⟩
  have hF := mi_let hF ey3
  have by3 : y3.toInt = (mu 0 35).toInt := congrArg Int32.toInt ey3
  refine lv_aload_n hx hb dX12_askedRoutes_0 rfl (lv_at hl 0 rfl) ?_
  refine lv_iload_n hx hb dX12_askedRoutes_1 rfl (lv_at hl 1 rfl) ?_
  have hFc := fr_all (wR_D mu hD) hS hA
  refine va_calli (va_runV (As := [.int vk]) (rest := []) ⟨hx, hb, hml, hown, hts⟩ (sm_askedLetter l dC dI cs ad mu ok s.heap hP ((wR_D mu hD).weaken (fun _ _ _ _ => trivial)) vk) (cwV 1 hts (wU_V mw_6_114 mw_6_111 mw_6_113 mw_0_46 mw_1_13) rfl rfl rfl (by decide +kernel) ⟨Nat.le_of_ble_eq_true rfl, Nat.le_of_ble_eq_true rfl⟩) ⟨sz_c, va_recv hK hP (ci := 12) (q0 := 0) rfl (gM_0 cs ad mu), sz_m hK hz⟩ rfl rfl hl.1 rfl (lv_room (Nat.le_of_ble_eq_true rfl)) dX12_askedRoutes_2 ⟨Nat.zero_le _, Nat.zero_le _⟩) hS (fun q _ h => hFc q h) hFc (fun r4 xi4 t H4 locs ht hvm hw4 hB hz1 hk1 hS => ?_)
  have hP : va_P (dC, dI) vwCl (wR 21 ad (EM cs ad) xi4) H4 := by rw [← ht]; exact hB
  obtain ⟨hfe4, hw4⟩ := hw4
  have hF := mi_letp hF hfe4
  rcases hw4 with ⟨rfl, hxi4, f4⟩ | ⟨z4, ok, hkp4_0⟩
  · have hF := (if_pos rfl).symm.trans hF
    have hP : va_P (dC, dI) vwCl (wR 21 ad (EM cs ad) mu) H4 := by rw [← hxi4]; exact hP
    have f4 : 0 ≤ vk.toInt ∧ vk.toInt < (mu 0 15).toInt ∧ (mu 0 15).toInt ≤ 4 := f4
    refine lv_istore_n (lv' := [(2, .int 0), (0, .ref (ad 0)), (1, .int vk)]) hx hb dX12_askedRoutes_5 rfl hl (by decide) rfl (fun ls hl => ?_)
    refine lv_iload_n hx hb dX12_askedRoutes_6 rfl (lv_at hl 0 rfl) ?_
    refine lv_if_ge (tgt := 12) hx hb dX12_askedRoutes_7 (by decide) (fun _ => ?_) (fun c => absurd (by decide) c)
    refine lv_aload_n hx hb dX12_askedRoutes_12 rfl (lv_at hl 1 rfl) ?_
    refine lv_iload_n hx hb dX12_askedRoutes_13 rfl (lv_at hl 2 rfl) ?_
    refine cr_i (va_runV (As := [.int vk]) (rest := []) ⟨hx, hb, hml, hown, hts⟩ (sm_isRead l dC dI cs ad mu ok H4 hP vk (by omega)) (cwV 1 hts (wU_V mw_6_52 mw_6_49 mw_6_51 mw_0_39 mw_1_13) rfl rfl rfl (by decide +kernel) ⟨Nat.le_of_ble_eq_true rfl, Nat.le_of_ble_eq_true rfl⟩) ⟨sz_c, va_recv hK hP (ci := 12) (q0 := 0) rfl (gM_0 cs ad mu), sz_m hK hz⟩ rfl rfl hl.1 rfl (lv_room (Nat.le_of_ble_eq_true rfl)) dX12_askedRoutes_14 ⟨Nat.zero_le _, Nat.zero_le _⟩) hS (fun r6 hw6 locs hS => ?_)
    obtain ⟨hfe6, hw6⟩ := hw6
    have hF := mi_let hF hfe6
    have gr6 : 0 ≤ r6.toInt ∧ r6.toInt ≤ 1 := hw6
    refine lv_if_eq (tgt := 23) hx hb dX12_askedRoutes_17 (by decide) (fun c_7 => ?_) (fun c_7 => ?_)
    · have hF := (if_pos c_7).symm.trans hF
      have c_7 : r6.toInt = 0 := il_eq c_7
      refine lv_aload_n hx hb dX12_askedRoutes_23 rfl (lv_at hl 1 rfl) ?_
      refine lv_iconst (v := 1) hx hb dX12_askedRoutes_24 (by decide) ?_
      refine va_put (D := (dC, dI)) (ci := 12) (v := .int 1) (ty := .boolean) (C := RX12) (T := TX12) (N := 46) hx hb hts inG12 tyX12 tyX12_ok nmX12 hown hK hP (wR_D mu hD) hS 0 (gM_0 cs ad mu) rfl 38 (by decide) (hts _ (List.mem_cons_of_mem _ mw_5_79)) (fun _ h9 => h9) rfl (by decide +kernel) (by first | rfl | decide) (by first | rfl | decide) (Nat.le_of_ble_eq_true rfl) dX12_askedRoutes_25 (fun H locs hP _ hS => ?_)
      simp only [List.set_cons_succ, List.set_cons_zero] at hP
      refine wr_gen (upd (mu 0) 38 1) hP ((hM_0_38 cs ad _ _)) (fun nu8 hn8 hP => ?_)
      have hF := mi_let hF hn8.symm
      have ok := tM_0_38 ok hn8 (by have h9 : (1 : Int32).toInt = 1 := rfl; exact ⟨by omega, by omega⟩)
      have ez9 : y1 = nu8 0 39 := ey1.trans (up_f hn8 (by decide)).symm
      have ez10 : y2 = nu8 0 33 := ey2.trans (up_f hn8 (by decide)).symm
      have ez11 : y3 = nu8 0 35 := ey3.trans (up_f hn8 (by decide)).symm
      have kp12 : (∀ k f : Nat, Nat.testBit 510 (gpM k f) = true → nu8 k f = mu k f) := kp_f hn8 (by decide) (fun _ _ _ => rfl)
      have ez13 : 1 = nu8 0 38 := up_v hn8
      refine lv_aload_n hx hb dX12_askedRoutes_28 rfl (lv_at hl 1 rfl) ?_
      refine lv_iload_n hx hb dX12_askedRoutes_29 rfl (lv_at hl 2 rfl) ?_
      have hFc := fr_all (wR_D nu8 hD) hS hA
      refine va_callv (va_runV (As := [.int vk]) (rest := []) ⟨hx, hb, hml, hown, hts⟩ (sm_routesOf l dC dI cs ad nu8 ok H hP ((wR_D nu8 hD).weaken (fun _ _ _ _ => trivial)) vk (by omega)) (cwV 1 hts (wU_V mw_6_174 mw_6_171 mw_6_173 mw_0_53 mw_1_13) rfl rfl rfl (by decide +kernel) ⟨Nat.le_of_ble_eq_true rfl, Nat.le_of_ble_eq_true rfl⟩) ⟨sz_c, va_recv hK hP (ci := 12) (q0 := 0) rfl (gM_0 cs ad nu8), sz_m hK hz⟩ rfl rfl hl.1 rfl (lv_room (Nat.le_of_ble_eq_true rfl)) dX12_askedRoutes_30 ⟨Nat.zero_le _, Nat.zero_le _⟩) hS (fun q _ h => hFc q h) hFc (fun xi14 t H14 locs ht hvm hw14 hB hz1 hk1 hS => ?_)
      have hP : va_P (dC, dI) vwCl (wR 21 ad (EM cs ad) xi14) H14 := by rw [← ht]; exact hB
      obtain ⟨hfe14, ok, hw14, hkp14_0⟩ := hw14
      have hF := mi_let hF hfe14
      have kp15 : (∀ k f : Nat, Nat.testBit 510 (gpM k f) = true → xi14 k f = mu k f) := kp_t hkp14_0 (by decide) kp12
      obtain ⟨y16, ey16⟩ : ∃ z : Int32, z = xi14 0 39 := ⟨_, rfl⟩
      have hF := mi_let hF ey16
      have by16 : y16.toInt = (xi14 0 39).toInt := congrArg Int32.toInt ey16
      have gy16 : -9 ≤ y16.toInt ∧ y16.toInt ≤ 3 := by rw [ey16]; exact rM_0_39 ok
      obtain ⟨y17, ey17⟩ : ∃ z : Int32, z = xi14 0 33 := ⟨_, rfl⟩
      have hF := mi_let hF ey17
      have by17 : y17.toInt = (xi14 0 33).toInt := congrArg Int32.toInt ey17
      obtain ⟨y18, ey18⟩ : ∃ z : Int32, z = xi14 0 35 := ⟨_, rfl⟩
      have hF := mi_let hF ey18
      have by18 : y18.toInt = (xi14 0 35).toInt := congrArg Int32.toInt ey18
      have gr14 : ((xi14 0 39).toInt = -9 ∨ (0 ≤ (xi14 0 39).toInt ∧ (xi14 0 39).toInt ≤ 3)) ∧ ((xi14 0 33).toInt = 0 ∨ (xi14 0 35).toInt ≤ 7) := hw14
      refine lv_iconst (v := 0) hx hb dX12_askedRoutes_33 (by decide) ?_
      exact W.iret (v := 0) hx hb hr (fun t ht hW => ⟨⟨0, xi14, rfl, ⟨hF.trans hfz.symm, Or.inl ⟨rfl, ok, (by first | assumption | (have hb19 := congrArg Int32.toInt ey17; have hb20 := congrArg Int32.toInt ey18; omega)), kp15⟩⟩, by first | (subst ht; exact hP) | (rw [ht]; exact hP) | (show va_P (dC, dI) vwCl (wR 21 ad (EM cs ad) xi14) t.heap; rw [ht]; exact hP)⟩, hS.F ht⟩) hS.2.2 dX12_askedRoutes_34
    · have hF := (if_neg c_7).symm.trans hF
      have c_7 : ¬ r6.toInt = 0 := il_ne c_7
      refine lv_bipush (v := (-4)) hx hb dX12_askedRoutes_20 (by decide) ?_
      exact W.iret (v := (-4)) hx hb hr (fun t ht hW => ⟨⟨(-4), mu, rfl, ⟨hF.trans hfz.symm, Or.inr ⟨by decide, ok, (fun _ _ _ => rfl)⟩⟩, by first | (subst ht; exact hP) | (rw [ht]; exact hP) | (show va_P (dC, dI) vwCl (wR 21 ad (EM cs ad) mu) t.heap; rw [ht]; exact hP)⟩, hS.F ht⟩) hS.2.2 dX12_askedRoutes_22
  · have hF := (if_neg (show ¬ r4 = 0 from fun h => by have h9 := congrArg Int32.toInt h; have h8 : (0 : Int32).toInt = 0 := rfl; omega)).symm.trans hF
    have kp5 : (∀ k f : Nat, Nat.testBit 510 (gpM k f) = true → xi4 k f = mu k f) := kp_t hkp4_0 (by decide) (fun _ _ _ => rfl)
    skip
    refine lv_istore_n (lv' := [(2, .int r4), (0, .ref (ad 0)), (1, .int vk)]) hx hb dX12_askedRoutes_5 rfl hl (by decide) rfl (fun ls hl => ?_)
    refine lv_iload_n hx hb dX12_askedRoutes_6 rfl (lv_at hl 0 rfl) ?_
    refine lv_if_ge (tgt := 12) hx hb dX12_askedRoutes_7 (by decide) (fun c_21 => by have c_21 : 0 ≤ r4.toInt := il_le c_21; exfalso; omega) (fun c_21 => ?_)
    have c_21 : r4.toInt < 0 := il_nle c_21
    refine lv_iload_n hx hb dX12_askedRoutes_10 rfl (lv_at hl 0 rfl) ?_
    exact W.iret (v := r4) hx hb hr (fun t ht hW => ⟨⟨r4, xi4, rfl, ⟨hF.trans hfz.symm, Or.inr ⟨by omega, ok, kp5⟩⟩, by first | (subst ht; exact hP) | (rw [ht]; exact hP) | (show va_P (dC, dI) vwCl (wR 21 ad (EM cs ad) xi4) t.heap; rw [ht]; exact hP)⟩, hS.F ht⟩) hS.2.2 dX12_askedRoutes_11
set_option maxHeartbeats 4000000 in
set_option maxRecDepth 100000 in
/-- sm_layRoute17 -/
theorem sm_layRoute17 (l : Launch) (dC : Nat → ClassId) (dI : Nat → Nat → Nat) (cs : Nat → ClassId) (ad : Nat → Nat) (mu : Nat → Nat → Int32) (ok : okR loM hiM mu) (H : Heap) (hP : va_P (dC, dI) vwCl (wR 21 ad (EM cs ad) mu) H) (hD0 : va_D (fun _ => True) (wR 21 ad (EM cs ad) mu)) (vr : Int32) (vn : Int32) (hin0 : 0 ≤ vr.toInt ∧ vr.toInt ≤ 5 ∧ vn.toInt ≤ 7) : Met l yX12_layRoute (wU yX12_layRoute cX12_layRoute 5 none) ({ frames := 3, cells := 0, slots := 0, locals := 65 }) (va_Pc [.ref (ad 0), .int vr, .ref (ad 17), .int vn] (sz_P (dC, dI) vwCl (tyM cs) H)) (va_Qv (fun (xi : Nat → Nat → Int32) => xi = F_sm_layRoute17 mu vr vn ∧ okR loM hiM xi ∧ (True) ∧ (∀ k f : Nat, Nat.testBit 510 (gpM k f) = true → xi k f = mu k f)) (fun xi t => va_P (dC, dI) vwCl (wR 21 ad (EM cs ad) xi) t.heap) (va_A (wR 21 ad (EM cs ad) mu) H.size)) 0 0 (va_A (wR 21 ad (EM cs ad) mu) H.size) := by
  refine Met.ofW (cc := cX12_layRoute) (maxL := 5) (ret := none) (by decide) rfl ?_
  intro p e s m args below meth c s₁ B hml hv
  obtain ⟨rfl, hh, hK, hz⟩ := hv
  have hx := B.exec
  have hb := B.bytes
  have hr := B.returns
  have hts := atoms_spec (ws := (wU yX12_layRoute cX12_layRoute 5 none)) B.pre
  have hown : s.vm.findClass RX12 = some m.cls := findClass_of_methodNamed B.named
  have hlocks := B.notSynchronized
  subst hh
  have hD := hD0.self (sz := s.heap.size)
  have hA : ∀ q : Nat, s.heap.size ≤ q → (va_A (wR 21 ad (EM cs ad) mu) s.heap.size) q := fun q h => Or.inr h
  have hS : va_S (va_A (wR 21 ad (EM cs ad) mu) s.heap.size) s.heap s.heap [] := va_S.rf
  have hl := lv_entry ([.ref (ad 0), .int vr, .ref (ad 17), .int vn]) (n := 5) (Nat.le_of_ble_eq_true rfl)
  rw [lg_entry_eq]
  generalize (lg_sl ([.ref (ad 0), .int vr, .ref (ad 17), .int vn]) ++ List.replicate (5 - (lg_sl ([.ref (ad 0), .int vr, .ref (ad 17), .int vn])).length) Slot.unset).toArray = ls at hl ⊢
  have hl : lv_has ls 5 [(0, .ref (ad 0)), (1, .int vr), (2, .ref (ad 17)), (3, .int vn)] := hl
  obtain ⟨fz, hfz⟩ : ∃ z, F_sm_layRoute17 mu vr vn = z := ⟨_, rfl⟩
  have hF := hfz
  unfold F_sm_layRoute17 at hF
  refine lv_aload_n hx hb dX12_layRoute_0 rfl (lv_at hl 0 rfl) ?_
  refine lv_iload_n hx hb dX12_layRoute_1 rfl (lv_at hl 1 rfl) ?_
  refine lv_iload_n hx hb dX12_layRoute_2 rfl (lv_at hl 3 rfl) ?_
  have hFc := fr_all (wR_D mu hD) hS hA
  refine va_calli (va_runV (As := [.int vr, .int vn]) (rest := []) ⟨hx, hb, hml, hown, hts⟩ (qm_row l dC dI cs ad mu ok s.heap hP ((wR_D mu hD).weaken (fun _ _ _ _ => trivial)) vr vn) (cwV 2 hts (wU_V mw_5_183 mw_6_196 mw_5_181 mw_5_182 mw_1_13) rfl rfl rfl (by decide +kernel) ⟨Nat.le_of_ble_eq_true rfl, Nat.le_of_ble_eq_true rfl⟩) ⟨sz_c, va_recv hK hP (ci := 12) (q0 := 0) rfl (gM_0 cs ad mu), sz_m hK hz⟩ rfl rfl hl.1 rfl (lv_room (Nat.le_of_ble_eq_true rfl)) dX12_layRoute_3 ⟨Nat.zero_le _, Nat.zero_le _⟩) hS (fun q _ h => hFc q h) hFc (fun r1 xi1 t H1 locs ht hvm hw1 hB hz1 hk1 hS => ?_)
  have hP : va_P (dC, dI) vwCl (wR 21 ad (EM cs ad) xi1) H1 := by rw [← ht]; exact hB
  obtain ⟨hfe1, ok, hw1, hkp1_0⟩ := hw1
  have hF := mi_letp hF hfe1
  have kp2 : (∀ k f : Nat, Nat.testBit 510 (gpM k f) = true → xi1 k f = mu k f) := kp_t hkp1_0 (by decide) (fun _ _ _ => rfl)
  have gr1 : ((vr.toInt < 0 ∨ 5 < vr.toInt ∨ 40 < vn.toInt) ∧ r1.toInt = -1) ∨ (0 ≤ vr.toInt ∧ vr.toInt ≤ 5 ∧ vn.toInt < 0 ∧ r1.toInt = -3) ∨ (0 ≤ vr.toInt ∧ vr.toInt ≤ 5 ∧ 0 ≤ vn.toInt ∧ vn.toInt ≤ 40 ∧ r1.toInt = vn.toInt) := hw1
  refine lv_pop hx hb dX12_layRoute_6 rfl ?_
  refine lv_iconst (v := 0) hx hb dX12_layRoute_7 (by decide) ?_
  refine lv_istore (lv' := [(4, .int 0), (0, .ref (ad 0)), (1, .int vr), (2, .ref (ad 17)), (3, .int vn)]) hx hb dX12_layRoute_8 hl (by decide) rfl (fun ls hl => ?_)
  have loop10 : ∀ (n10 : Nat) (v4_10 : Int32) (nu10_ : Nat → Nat → Int32) (H : Heap) (locs : List Loc) (ls : Array Slot), (7 + 1 - v4_10.toInt).toNat < n10 → (0 ≤ v4_10.toInt ∧ v4_10.toInt ≤ 7) → okR loM hiM nu10_ → va_P (dC, dI) vwCl (wR 21 ad (EM cs ad) nu10_) H → (∀ k f : Nat, Nat.testBit 510 (gpM k f) = true → nu10_ k f = mu k f) → L_sm_layRoute17_10_0 vn vr n10 v4_10 nu10_ = fz → va_S (va_A (wR 21 ad (EM cs ad) mu) s.heap.size) s.heap H locs → lv_has ls 5 [(4, .int v4_10), (0, .ref (ad 0)), (1, .int vr), (2, .ref (ad 17)), (3, .int vn)] → W p l e (headSpec (wU yX12_layRoute cX12_layRoute 5 none) ({ frames := 3, cells := 0, slots := 0, locals := 65 })).room s m ([.ref (ad 0), .int vr, .ref (ad 17), .int vn] : List Value).toArray below meth c H locs 0 0 (MQ below (va_Qv (fun (xi : Nat → Nat → Int32) => xi = F_sm_layRoute17 mu vr vn ∧ okR loM hiM xi ∧ (True) ∧ (∀ k f : Nat, Nat.testBit 510 (gpM k f) = true → xi k f = mu k f)) (fun xi t => va_P (dC, dI) vwCl (wR 21 ad (EM cs ad) xi) t.heap) (va_A (wR 21 ad (EM cs ad) mu) s.heap.size)) ([.ref (ad 0), .int vr, .ref (ad 17), .int vn] : List Value).toArray s 0 0 (va_A (wR 21 ad (EM cs ad) mu) s.heap.size)) (F0 m 10 ls []) := by
    intro n10
    induction n10 with
    | zero => intro v4_10 nu10_ H locs ls hm; exact absurd hm (Nat.not_lt_zero _)
    | succ n10 ih10 =>
      intro v4_10 nu10_ H locs ls hm_10 h_v4_10 ok hP kq10_0 hF hS hl
      rw [L_sm_layRoute17_10_0] at hF
      refine lv_iload hx hb dX12_layRoute_10 (lv_at hl 0 rfl) ?_
      refine lv_iload_n hx hb dX12_layRoute_12 rfl (lv_at hl 4 rfl) ?_
      refine lv_icmp_ge (tgt := 33) hx hb dX12_layRoute_13 (by decide) (fun c_3 => ?_) (fun c_3 => ?_)
      · have hF := (if_pos c_3).symm.trans hF
        have c_3 : vn.toInt ≤ v4_10.toInt := il_le c_3
        exact W.vret hx hb hr (fun t ht hW => ⟨⟨nu10_, rfl, ⟨hF.trans hfz.symm, ok, trivial, kq10_0⟩, by first | (subst ht; exact hP) | (rw [ht]; exact hP) | (show va_P (dC, dI) vwCl (wR 21 ad (EM cs ad) nu10_) t.heap; rw [ht]; exact hP)⟩, hS.F ht⟩) hS.2.2 dX12_layRoute_33
      · have hF := (if_neg c_3).symm.trans hF
        have c_3 : v4_10.toInt < vn.toInt := il_nle c_3
        refine lv_aload_n hx hb dX12_layRoute_16 rfl (lv_at hl 1 rfl) ?_
        refine lv_iload_n hx hb dX12_layRoute_17 rfl (lv_at hl 2 rfl) ?_
        refine lv_iload hx hb dX12_layRoute_18 (lv_at hl 0 rfl) ?_
        refine lv_aload_n hx hb dX12_layRoute_20 rfl (lv_at hl 3 rfl) ?_
        refine lv_iload hx hb dX12_layRoute_21 (lv_at hl 0 rfl) ?_
        refine va_iald hx hb hK hP 17 0 (gM_17 cs ad nu10_) rfl (show vp_in v4_10 7 from vi_of (by omega) (by omega)) dX12_layRoute_23 ?_
        refine lv_topi (fun y4 ey4 => ?_)
        have hF := mi_let hF ey4
        have by4 : y4.toInt = (nu10_ 17 v4_10.toNatClampNeg).toInt := congrArg Int32.toInt ey4
        have hFc := fr_all (wR_D nu10_ hD) hS hA
        refine va_callv (va_runV (As := [.int vr, .int v4_10, .int y4]) (rest := []) ⟨hx, hb, hml, hown, hts⟩ (sm_setRow l dC dI cs ad nu10_ ok H hP ((wR_D nu10_ hD).weaken (fun _ _ _ _ => trivial)) vr v4_10 y4 (by omega)) (cwV 3 hts (wU_V mw_5_197 mw_5_194 mw_5_196 mw_0_27 mw_1_13) rfl rfl rfl (by decide +kernel) ⟨Nat.le_of_ble_eq_true rfl, Nat.le_of_ble_eq_true rfl⟩) ⟨sz_c, va_recv hK hP (ci := 12) (q0 := 0) rfl (gM_0 cs ad nu10_), sz_m hK hz⟩ rfl rfl hl.1 rfl (lv_room (Nat.le_of_ble_eq_true rfl)) dX12_layRoute_24 ⟨Nat.zero_le _, Nat.zero_le _⟩) hS (fun q _ h => hFc q h) hFc (fun xi5 t H5 locs ht hvm hw5 hB hz1 hk1 hS => ?_)
        have hP : va_P (dC, dI) vwCl (wR 21 ad (EM cs ad) xi5) H5 := by rw [← ht]; exact hB
        obtain ⟨hfe5, ok, hw5, hkp5_0⟩ := hw5
        have hF := mi_let hF hfe5
        have kp6 : (∀ k f : Nat, Nat.testBit 510 (gpM k f) = true → xi5 k f = mu k f) := kp_t hkp5_0 (by decide) kq10_0
        refine lv_iinc (v := (v4_10 + 1)) (lv' := [(4, .int (v4_10 + 1)), (0, .ref (ad 0)), (1, .int vr), (2, .ref (ad 17)), (3, .int vn)]) hx hb dX12_layRoute_27 hl (k := 0) rfl rfl (by decide) rfl (fun ls hl => ?_)
        refine loc_gen (P := fun w9 => lv_has ls 5 [(4, .int w9), (0, .ref (ad 0)), (1, .int vr), (2, .ref (ad 17)), (3, .int vn)]) (v4_10 + 1) hl (fun w7 hw7 hl => ?_)
        have hl : lv_has ls 5 [(4, .int w7), (0, .ref (ad 0)), (1, .int vr), (2, .ref (ad 17)), (3, .int vn)] := hl
        have hF := mi_let hF hw7.symm
        have aw7 : w7.toInt = v4_10.toInt + 1 := by rw [← hw7]; first | exact va1 (Int.lt_of_le_of_lt h_v4_10.2 (by decide)) | exact va1 (by omega)
        refine lv_goto (tgt := 10) hx hb dX12_layRoute_30 (by decide) ?_
        exact ih10 (w7) xi5 _ _ _ (by first | exact ms_up hm_10 aw7 h_v4_10.2 | exact ms_lt hm_10 (by omega) (by omega) | omega) (by first | exact rg_up aw7 h_v4_10 (by omega) | omega)  ok hP  kp6 hF hS (lv_sub hl [0, 1, 2, 3, 4] rfl)
  exact loop10 10 (0) xi1 _ _ _ (by have h80 : (0 : Int32).toInt = 0 := rfl; omega) (by have h80 : (0 : Int32).toInt = 0 := rfl; exact ⟨by omega, by omega⟩)  ok hP  kp2 hF hS hl
set_option maxHeartbeats 4000000 in
set_option maxRecDepth 100000 in
/-- sm_layRoute18 -/
theorem sm_layRoute18 (l : Launch) (dC : Nat → ClassId) (dI : Nat → Nat → Nat) (cs : Nat → ClassId) (ad : Nat → Nat) (mu : Nat → Nat → Int32) (ok : okR loM hiM mu) (H : Heap) (hP : va_P (dC, dI) vwCl (wR 21 ad (EM cs ad) mu) H) (hD0 : va_D (fun _ => True) (wR 21 ad (EM cs ad) mu)) (vr : Int32) (vn : Int32) (hin0 : 0 ≤ vr.toInt ∧ vr.toInt ≤ 5 ∧ vn.toInt ≤ 7) : Met l yX12_layRoute (wU yX12_layRoute cX12_layRoute 5 none) ({ frames := 3, cells := 0, slots := 0, locals := 65 }) (va_Pc [.ref (ad 0), .int vr, .ref (ad 18), .int vn] (sz_P (dC, dI) vwCl (tyM cs) H)) (va_Qv (fun (xi : Nat → Nat → Int32) => xi = F_sm_layRoute18 mu vr vn ∧ okR loM hiM xi ∧ (True) ∧ (∀ k f : Nat, Nat.testBit 510 (gpM k f) = true → xi k f = mu k f)) (fun xi t => va_P (dC, dI) vwCl (wR 21 ad (EM cs ad) xi) t.heap) (va_A (wR 21 ad (EM cs ad) mu) H.size)) 0 0 (va_A (wR 21 ad (EM cs ad) mu) H.size) := by
  refine Met.ofW (cc := cX12_layRoute) (maxL := 5) (ret := none) (by decide) rfl ?_
  intro p e s m args below meth c s₁ B hml hv
  obtain ⟨rfl, hh, hK, hz⟩ := hv
  have hx := B.exec
  have hb := B.bytes
  have hr := B.returns
  have hts := atoms_spec (ws := (wU yX12_layRoute cX12_layRoute 5 none)) B.pre
  have hown : s.vm.findClass RX12 = some m.cls := findClass_of_methodNamed B.named
  have hlocks := B.notSynchronized
  subst hh
  have hD := hD0.self (sz := s.heap.size)
  have hA : ∀ q : Nat, s.heap.size ≤ q → (va_A (wR 21 ad (EM cs ad) mu) s.heap.size) q := fun q h => Or.inr h
  have hS : va_S (va_A (wR 21 ad (EM cs ad) mu) s.heap.size) s.heap s.heap [] := va_S.rf
  have hl := lv_entry ([.ref (ad 0), .int vr, .ref (ad 18), .int vn]) (n := 5) (Nat.le_of_ble_eq_true rfl)
  rw [lg_entry_eq]
  generalize (lg_sl ([.ref (ad 0), .int vr, .ref (ad 18), .int vn]) ++ List.replicate (5 - (lg_sl ([.ref (ad 0), .int vr, .ref (ad 18), .int vn])).length) Slot.unset).toArray = ls at hl ⊢
  have hl : lv_has ls 5 [(0, .ref (ad 0)), (1, .int vr), (2, .ref (ad 18)), (3, .int vn)] := hl
  obtain ⟨fz, hfz⟩ : ∃ z, F_sm_layRoute18 mu vr vn = z := ⟨_, rfl⟩
  have hF := hfz
  unfold F_sm_layRoute18 at hF
  refine lv_aload_n hx hb dX12_layRoute_0 rfl (lv_at hl 0 rfl) ?_
  refine lv_iload_n hx hb dX12_layRoute_1 rfl (lv_at hl 1 rfl) ?_
  refine lv_iload_n hx hb dX12_layRoute_2 rfl (lv_at hl 3 rfl) ?_
  have hFc := fr_all (wR_D mu hD) hS hA
  refine va_calli (va_runV (As := [.int vr, .int vn]) (rest := []) ⟨hx, hb, hml, hown, hts⟩ (qm_row l dC dI cs ad mu ok s.heap hP ((wR_D mu hD).weaken (fun _ _ _ _ => trivial)) vr vn) (cwV 2 hts (wU_V mw_5_183 mw_6_196 mw_5_181 mw_5_182 mw_1_13) rfl rfl rfl (by decide +kernel) ⟨Nat.le_of_ble_eq_true rfl, Nat.le_of_ble_eq_true rfl⟩) ⟨sz_c, va_recv hK hP (ci := 12) (q0 := 0) rfl (gM_0 cs ad mu), sz_m hK hz⟩ rfl rfl hl.1 rfl (lv_room (Nat.le_of_ble_eq_true rfl)) dX12_layRoute_3 ⟨Nat.zero_le _, Nat.zero_le _⟩) hS (fun q _ h => hFc q h) hFc (fun r1 xi1 t H1 locs ht hvm hw1 hB hz1 hk1 hS => ?_)
  have hP : va_P (dC, dI) vwCl (wR 21 ad (EM cs ad) xi1) H1 := by rw [← ht]; exact hB
  obtain ⟨hfe1, ok, hw1, hkp1_0⟩ := hw1
  have hF := mi_letp hF hfe1
  have kp2 : (∀ k f : Nat, Nat.testBit 510 (gpM k f) = true → xi1 k f = mu k f) := kp_t hkp1_0 (by decide) (fun _ _ _ => rfl)
  have gr1 : ((vr.toInt < 0 ∨ 5 < vr.toInt ∨ 40 < vn.toInt) ∧ r1.toInt = -1) ∨ (0 ≤ vr.toInt ∧ vr.toInt ≤ 5 ∧ vn.toInt < 0 ∧ r1.toInt = -3) ∨ (0 ≤ vr.toInt ∧ vr.toInt ≤ 5 ∧ 0 ≤ vn.toInt ∧ vn.toInt ≤ 40 ∧ r1.toInt = vn.toInt) := hw1
  refine lv_pop hx hb dX12_layRoute_6 rfl ?_
  refine lv_iconst (v := 0) hx hb dX12_layRoute_7 (by decide) ?_
  refine lv_istore (lv' := [(4, .int 0), (0, .ref (ad 0)), (1, .int vr), (2, .ref (ad 18)), (3, .int vn)]) hx hb dX12_layRoute_8 hl (by decide) rfl (fun ls hl => ?_)
  have loop10 : ∀ (n10 : Nat) (v4_10 : Int32) (nu10_ : Nat → Nat → Int32) (H : Heap) (locs : List Loc) (ls : Array Slot), (7 + 1 - v4_10.toInt).toNat < n10 → (0 ≤ v4_10.toInt ∧ v4_10.toInt ≤ 7) → okR loM hiM nu10_ → va_P (dC, dI) vwCl (wR 21 ad (EM cs ad) nu10_) H → (∀ k f : Nat, Nat.testBit 510 (gpM k f) = true → nu10_ k f = mu k f) → L_sm_layRoute18_10_0 vn vr n10 v4_10 nu10_ = fz → va_S (va_A (wR 21 ad (EM cs ad) mu) s.heap.size) s.heap H locs → lv_has ls 5 [(4, .int v4_10), (0, .ref (ad 0)), (1, .int vr), (2, .ref (ad 18)), (3, .int vn)] → W p l e (headSpec (wU yX12_layRoute cX12_layRoute 5 none) ({ frames := 3, cells := 0, slots := 0, locals := 65 })).room s m ([.ref (ad 0), .int vr, .ref (ad 18), .int vn] : List Value).toArray below meth c H locs 0 0 (MQ below (va_Qv (fun (xi : Nat → Nat → Int32) => xi = F_sm_layRoute18 mu vr vn ∧ okR loM hiM xi ∧ (True) ∧ (∀ k f : Nat, Nat.testBit 510 (gpM k f) = true → xi k f = mu k f)) (fun xi t => va_P (dC, dI) vwCl (wR 21 ad (EM cs ad) xi) t.heap) (va_A (wR 21 ad (EM cs ad) mu) s.heap.size)) ([.ref (ad 0), .int vr, .ref (ad 18), .int vn] : List Value).toArray s 0 0 (va_A (wR 21 ad (EM cs ad) mu) s.heap.size)) (F0 m 10 ls []) := by
    intro n10
    induction n10 with
    | zero => intro v4_10 nu10_ H locs ls hm; exact absurd hm (Nat.not_lt_zero _)
    | succ n10 ih10 =>
      intro v4_10 nu10_ H locs ls hm_10 h_v4_10 ok hP kq10_0 hF hS hl
      rw [L_sm_layRoute18_10_0] at hF
      refine lv_iload hx hb dX12_layRoute_10 (lv_at hl 0 rfl) ?_
      refine lv_iload_n hx hb dX12_layRoute_12 rfl (lv_at hl 4 rfl) ?_
      refine lv_icmp_ge (tgt := 33) hx hb dX12_layRoute_13 (by decide) (fun c_3 => ?_) (fun c_3 => ?_)
      · have hF := (if_pos c_3).symm.trans hF
        have c_3 : vn.toInt ≤ v4_10.toInt := il_le c_3
        exact W.vret hx hb hr (fun t ht hW => ⟨⟨nu10_, rfl, ⟨hF.trans hfz.symm, ok, trivial, kq10_0⟩, by first | (subst ht; exact hP) | (rw [ht]; exact hP) | (show va_P (dC, dI) vwCl (wR 21 ad (EM cs ad) nu10_) t.heap; rw [ht]; exact hP)⟩, hS.F ht⟩) hS.2.2 dX12_layRoute_33
      · have hF := (if_neg c_3).symm.trans hF
        have c_3 : v4_10.toInt < vn.toInt := il_nle c_3
        refine lv_aload_n hx hb dX12_layRoute_16 rfl (lv_at hl 1 rfl) ?_
        refine lv_iload_n hx hb dX12_layRoute_17 rfl (lv_at hl 2 rfl) ?_
        refine lv_iload hx hb dX12_layRoute_18 (lv_at hl 0 rfl) ?_
        refine lv_aload_n hx hb dX12_layRoute_20 rfl (lv_at hl 3 rfl) ?_
        refine lv_iload hx hb dX12_layRoute_21 (lv_at hl 0 rfl) ?_
        refine va_iald hx hb hK hP 18 0 (gM_18 cs ad nu10_) rfl (show vp_in v4_10 7 from vi_of (by omega) (by omega)) dX12_layRoute_23 ?_
        refine lv_topi (fun y4 ey4 => ?_)
        have hF := mi_let hF ey4
        have by4 : y4.toInt = (nu10_ 18 v4_10.toNatClampNeg).toInt := congrArg Int32.toInt ey4
        have hFc := fr_all (wR_D nu10_ hD) hS hA
        refine va_callv (va_runV (As := [.int vr, .int v4_10, .int y4]) (rest := []) ⟨hx, hb, hml, hown, hts⟩ (sm_setRow l dC dI cs ad nu10_ ok H hP ((wR_D nu10_ hD).weaken (fun _ _ _ _ => trivial)) vr v4_10 y4 (by omega)) (cwV 3 hts (wU_V mw_5_197 mw_5_194 mw_5_196 mw_0_27 mw_1_13) rfl rfl rfl (by decide +kernel) ⟨Nat.le_of_ble_eq_true rfl, Nat.le_of_ble_eq_true rfl⟩) ⟨sz_c, va_recv hK hP (ci := 12) (q0 := 0) rfl (gM_0 cs ad nu10_), sz_m hK hz⟩ rfl rfl hl.1 rfl (lv_room (Nat.le_of_ble_eq_true rfl)) dX12_layRoute_24 ⟨Nat.zero_le _, Nat.zero_le _⟩) hS (fun q _ h => hFc q h) hFc (fun xi5 t H5 locs ht hvm hw5 hB hz1 hk1 hS => ?_)
        have hP : va_P (dC, dI) vwCl (wR 21 ad (EM cs ad) xi5) H5 := by rw [← ht]; exact hB
        obtain ⟨hfe5, ok, hw5, hkp5_0⟩ := hw5
        have hF := mi_let hF hfe5
        have kp6 : (∀ k f : Nat, Nat.testBit 510 (gpM k f) = true → xi5 k f = mu k f) := kp_t hkp5_0 (by decide) kq10_0
        refine lv_iinc (v := (v4_10 + 1)) (lv' := [(4, .int (v4_10 + 1)), (0, .ref (ad 0)), (1, .int vr), (2, .ref (ad 18)), (3, .int vn)]) hx hb dX12_layRoute_27 hl (k := 0) rfl rfl (by decide) rfl (fun ls hl => ?_)
        refine loc_gen (P := fun w9 => lv_has ls 5 [(4, .int w9), (0, .ref (ad 0)), (1, .int vr), (2, .ref (ad 18)), (3, .int vn)]) (v4_10 + 1) hl (fun w7 hw7 hl => ?_)
        have hl : lv_has ls 5 [(4, .int w7), (0, .ref (ad 0)), (1, .int vr), (2, .ref (ad 18)), (3, .int vn)] := hl
        have hF := mi_let hF hw7.symm
        have aw7 : w7.toInt = v4_10.toInt + 1 := by rw [← hw7]; first | exact va1 (Int.lt_of_le_of_lt h_v4_10.2 (by decide)) | exact va1 (by omega)
        refine lv_goto (tgt := 10) hx hb dX12_layRoute_30 (by decide) ?_
        exact ih10 (w7) xi5 _ _ _ (by first | exact ms_up hm_10 aw7 h_v4_10.2 | exact ms_lt hm_10 (by omega) (by omega) | omega) (by first | exact rg_up aw7 h_v4_10 (by omega) | omega)  ok hP  kp6 hF hS (lv_sub hl [0, 1, 2, 3, 4] rfl)
  exact loop10 10 (0) xi1 _ _ _ (by have h80 : (0 : Int32).toInt = 0 := rfl; omega) (by have h80 : (0 : Int32).toInt = 0 := rfl; exact ⟨by omega, by omega⟩)  ok hP  kp2 hF hS hl
theorem mw_6_170 : (Cond.code yX12_askedRoutes cX12_askedRoutes 3 (some .int) : Cond) ∈ lw_good := lg_at 6 170 rfl rfl
theorem mw_6_167 : (Cond.methodLink RX12 266 yX12_askedRoutes : Cond) ∈ lw_good := lg_at 6 167 rfl rfl
theorem mw_6_169 : (Cond.instanceMethod yX12_askedRoutes : Cond) ∈ lw_good := lg_at 6 169 rfl rfl
theorem mw_0_52 : (Cond.selects RX12 yX12_askedRoutes yX12_askedRoutes : Cond) ∈ lw_good := lg_at 0 52 rfl rfl
theorem mw_6_195 : (Cond.code yX12_layRoute cX12_layRoute 5 none : Cond) ∈ lw_good := lg_at 6 195 rfl rfl
theorem mw_6_192 : (Cond.methodLink RX12 269 yX12_layRoute : Cond) ∈ lw_good := lg_at 6 192 rfl rfl
theorem mw_6_194 : (Cond.instanceMethod yX12_layRoute : Cond) ∈ lw_good := lg_at 6 194 rfl rfl
theorem mw_0_58 : (Cond.selects RX12 yX12_layRoute yX12_layRoute : Cond) ∈ lw_good := lg_at 0 58 rfl rfl
theorem lb_X12_cheapest_0 : dl_ck (cX12_cheapest.data.toList.drop 0) [28, 184, 0, 81, 154, 0, 7, 2, 167, 0, 8, 42, 27, 182, 1, 10, 62, 29, 156, 0, 5, 29, 172, 42, 180, 0, 210, 154, 0, 6, 16, 247] = true := by decide +kernel
theorem lb_X12_cheapest_1 : dl_ck (cX12_cheapest.data.toList.drop 32) [172, 42, 28, 42, 180, 0, 58, 42, 180, 0, 216, 182, 1, 13, 42, 180, 0, 213, 172] = true := by decide +kernel
theorem dX12_cheapest_0 : decode cX12_cheapest 0 = .ok (.iload_n 2, 1) := dx_28 (dl_at 0 0 lb_X12_cheapest_0 rfl)
theorem dX12_cheapest_1 : decode cX12_cheapest 1 = .ok (.invokestatic 81, 3) := dx_184 (a := 0) (b := 81) (dl_at 0 1 lb_X12_cheapest_0 rfl) (dl_at 0 2 lb_X12_cheapest_0 rfl) (dl_at 0 3 lb_X12_cheapest_0 rfl) rfl
theorem dX12_cheapest_4 : decode cX12_cheapest 4 = .ok (.ifCond .ne 7, 3) := dx_154 (a := 0) (b := 7) (dl_at 0 4 lb_X12_cheapest_0 rfl) (dl_at 0 5 lb_X12_cheapest_0 rfl) (dl_at 0 6 lb_X12_cheapest_0 rfl) sg16_7
theorem dX12_cheapest_11 : decode cX12_cheapest 11 = .ok (.aload_n 0, 1) := dx_42 (dl_at 0 11 lb_X12_cheapest_0 rfl)
theorem dX12_cheapest_12 : decode cX12_cheapest 12 = .ok (.iload_n 1, 1) := dx_27 (dl_at 0 12 lb_X12_cheapest_0 rfl)
theorem dX12_cheapest_13 : decode cX12_cheapest 13 = .ok (.invokevirtual 266, 3) := dx_182 (a := 1) (b := 10) (dl_at 0 13 lb_X12_cheapest_0 rfl) (dl_at 0 14 lb_X12_cheapest_0 rfl) (dl_at 0 15 lb_X12_cheapest_0 rfl) rfl
theorem dX12_cheapest_16 : decode cX12_cheapest 16 = .ok (.istore_n 3, 1) := dx_62 (dl_at 0 16 lb_X12_cheapest_0 rfl)
theorem dX12_cheapest_17 : decode cX12_cheapest 17 = .ok (.iload_n 3, 1) := dx_29 (dl_at 0 17 lb_X12_cheapest_0 rfl)
theorem dX12_cheapest_18 : decode cX12_cheapest 18 = .ok (.ifCond .ge 5, 3) := dx_156 (a := 0) (b := 5) (dl_at 0 18 lb_X12_cheapest_0 rfl) (dl_at 0 19 lb_X12_cheapest_0 rfl) (dl_at 0 20 lb_X12_cheapest_0 rfl) sg16_5
theorem dX12_cheapest_23 : decode cX12_cheapest 23 = .ok (.aload_n 0, 1) := dx_42 (dl_at 0 23 lb_X12_cheapest_0 rfl)
theorem dX12_cheapest_24 : decode cX12_cheapest 24 = .ok (.getfield 210, 3) := dx_180 (a := 0) (b := 210) (dl_at 0 24 lb_X12_cheapest_0 rfl) (dl_at 0 25 lb_X12_cheapest_0 rfl) (dl_at 0 26 lb_X12_cheapest_0 rfl) rfl
theorem dX12_cheapest_27 : decode cX12_cheapest 27 = .ok (.ifCond .ne 6, 3) := dx_154 (a := 0) (b := 6) (dl_at 0 27 lb_X12_cheapest_0 rfl) (dl_at 0 28 lb_X12_cheapest_0 rfl) (dl_at 0 29 lb_X12_cheapest_0 rfl) sg16_6
theorem dX12_cheapest_33 : decode cX12_cheapest 33 = .ok (.aload_n 0, 1) := dx_42 (dl_at 32 1 lb_X12_cheapest_1 rfl)
theorem dX12_cheapest_34 : decode cX12_cheapest 34 = .ok (.iload_n 2, 1) := dx_28 (dl_at 32 2 lb_X12_cheapest_1 rfl)
theorem dX12_cheapest_35 : decode cX12_cheapest 35 = .ok (.aload_n 0, 1) := dx_42 (dl_at 32 3 lb_X12_cheapest_1 rfl)
theorem dX12_cheapest_36 : decode cX12_cheapest 36 = .ok (.getfield 58, 3) := dx_180 (a := 0) (b := 58) (dl_at 32 4 lb_X12_cheapest_1 rfl) (dl_at 32 5 lb_X12_cheapest_1 rfl) (dl_at 32 6 lb_X12_cheapest_1 rfl) rfl
theorem dX12_cheapest_39 : decode cX12_cheapest 39 = .ok (.aload_n 0, 1) := dx_42 (dl_at 32 7 lb_X12_cheapest_1 rfl)
theorem dX12_cheapest_40 : decode cX12_cheapest 40 = .ok (.getfield 216, 3) := dx_180 (a := 0) (b := 216) (dl_at 32 8 lb_X12_cheapest_1 rfl) (dl_at 32 9 lb_X12_cheapest_1 rfl) (dl_at 32 10 lb_X12_cheapest_1 rfl) rfl
theorem dX12_cheapest_43 : decode cX12_cheapest 43 = .ok (.invokevirtual 269, 3) := dx_182 (a := 1) (b := 13) (dl_at 32 11 lb_X12_cheapest_1 rfl) (dl_at 32 12 lb_X12_cheapest_1 rfl) (dl_at 32 13 lb_X12_cheapest_1 rfl) rfl
theorem dX12_cheapest_46 : decode cX12_cheapest 46 = .ok (.aload_n 0, 1) := dx_42 (dl_at 32 14 lb_X12_cheapest_1 rfl)
theorem dX12_cheapest_47 : decode cX12_cheapest 47 = .ok (.getfield 213, 3) := dx_180 (a := 0) (b := 213) (dl_at 32 15 lb_X12_cheapest_1 rfl) (dl_at 32 16 lb_X12_cheapest_1 rfl) (dl_at 32 17 lb_X12_cheapest_1 rfl) rfl
theorem dX12_cheapest_50 : decode cX12_cheapest 50 = .ok (.ireturn, 1) := dx_172 (dl_at 32 18 lb_X12_cheapest_1 rfl)
theorem dX12_cheapest_30 : decode cX12_cheapest 30 = .ok (.bipush (-9), 2) := dx_16 (dl_at 0 30 lb_X12_cheapest_0 rfl) (dl_at 0 31 lb_X12_cheapest_0 rfl) sg8_247
theorem dX12_cheapest_32 : decode cX12_cheapest 32 = .ok (.ireturn, 1) := dx_172 (dl_at 32 0 lb_X12_cheapest_1 rfl)
theorem dX12_cheapest_21 : decode cX12_cheapest 21 = .ok (.iload_n 3, 1) := dx_29 (dl_at 0 21 lb_X12_cheapest_0 rfl)
theorem dX12_cheapest_22 : decode cX12_cheapest 22 = .ok (.ireturn, 1) := dx_172 (dl_at 0 22 lb_X12_cheapest_0 rfl)
theorem dX12_cheapest_7 : decode cX12_cheapest 7 = .ok (.iconst (-1), 1) := dx_2 (dl_at 0 7 lb_X12_cheapest_0 rfl)
theorem dX12_cheapest_8 : decode cX12_cheapest 8 = .ok (.goto 8, 3) := dx_167 (a := 0) (b := 8) (dl_at 0 8 lb_X12_cheapest_0 rfl) (dl_at 0 9 lb_X12_cheapest_0 rfl) (dl_at 0 10 lb_X12_cheapest_0 rfl) sg16_8
theorem lb_X12_soonest_0 : dl_ck (cX12_soonest.data.toList.drop 0) [28, 184, 0, 81, 154, 0, 7, 2, 167, 0, 8, 42, 27, 182, 1, 10, 62, 29, 156, 0, 5, 29, 172, 42, 180, 0, 229, 154, 0, 6, 16, 247] = true := by decide +kernel
theorem lb_X12_soonest_1 : dl_ck (cX12_soonest.data.toList.drop 32) [172, 42, 28, 42, 180, 0, 61, 42, 180, 0, 235, 182, 1, 13, 42, 42, 180, 0, 238, 42, 180, 0, 235, 4, 100, 182, 0, 103, 172] = true := by decide +kernel
theorem dX12_soonest_0 : decode cX12_soonest 0 = .ok (.iload_n 2, 1) := dx_28 (dl_at 0 0 lb_X12_soonest_0 rfl)
theorem dX12_soonest_1 : decode cX12_soonest 1 = .ok (.invokestatic 81, 3) := dx_184 (a := 0) (b := 81) (dl_at 0 1 lb_X12_soonest_0 rfl) (dl_at 0 2 lb_X12_soonest_0 rfl) (dl_at 0 3 lb_X12_soonest_0 rfl) rfl
theorem dX12_soonest_4 : decode cX12_soonest 4 = .ok (.ifCond .ne 7, 3) := dx_154 (a := 0) (b := 7) (dl_at 0 4 lb_X12_soonest_0 rfl) (dl_at 0 5 lb_X12_soonest_0 rfl) (dl_at 0 6 lb_X12_soonest_0 rfl) sg16_7
theorem dX12_soonest_11 : decode cX12_soonest 11 = .ok (.aload_n 0, 1) := dx_42 (dl_at 0 11 lb_X12_soonest_0 rfl)
theorem dX12_soonest_12 : decode cX12_soonest 12 = .ok (.iload_n 1, 1) := dx_27 (dl_at 0 12 lb_X12_soonest_0 rfl)
theorem dX12_soonest_13 : decode cX12_soonest 13 = .ok (.invokevirtual 266, 3) := dx_182 (a := 1) (b := 10) (dl_at 0 13 lb_X12_soonest_0 rfl) (dl_at 0 14 lb_X12_soonest_0 rfl) (dl_at 0 15 lb_X12_soonest_0 rfl) rfl
theorem dX12_soonest_16 : decode cX12_soonest 16 = .ok (.istore_n 3, 1) := dx_62 (dl_at 0 16 lb_X12_soonest_0 rfl)
theorem dX12_soonest_17 : decode cX12_soonest 17 = .ok (.iload_n 3, 1) := dx_29 (dl_at 0 17 lb_X12_soonest_0 rfl)
theorem dX12_soonest_18 : decode cX12_soonest 18 = .ok (.ifCond .ge 5, 3) := dx_156 (a := 0) (b := 5) (dl_at 0 18 lb_X12_soonest_0 rfl) (dl_at 0 19 lb_X12_soonest_0 rfl) (dl_at 0 20 lb_X12_soonest_0 rfl) sg16_5
theorem dX12_soonest_23 : decode cX12_soonest 23 = .ok (.aload_n 0, 1) := dx_42 (dl_at 0 23 lb_X12_soonest_0 rfl)
theorem dX12_soonest_24 : decode cX12_soonest 24 = .ok (.getfield 229, 3) := dx_180 (a := 0) (b := 229) (dl_at 0 24 lb_X12_soonest_0 rfl) (dl_at 0 25 lb_X12_soonest_0 rfl) (dl_at 0 26 lb_X12_soonest_0 rfl) rfl
theorem dX12_soonest_27 : decode cX12_soonest 27 = .ok (.ifCond .ne 6, 3) := dx_154 (a := 0) (b := 6) (dl_at 0 27 lb_X12_soonest_0 rfl) (dl_at 0 28 lb_X12_soonest_0 rfl) (dl_at 0 29 lb_X12_soonest_0 rfl) sg16_6
theorem dX12_soonest_33 : decode cX12_soonest 33 = .ok (.aload_n 0, 1) := dx_42 (dl_at 32 1 lb_X12_soonest_1 rfl)
theorem dX12_soonest_34 : decode cX12_soonest 34 = .ok (.iload_n 2, 1) := dx_28 (dl_at 32 2 lb_X12_soonest_1 rfl)
theorem dX12_soonest_35 : decode cX12_soonest 35 = .ok (.aload_n 0, 1) := dx_42 (dl_at 32 3 lb_X12_soonest_1 rfl)
theorem dX12_soonest_36 : decode cX12_soonest 36 = .ok (.getfield 61, 3) := dx_180 (a := 0) (b := 61) (dl_at 32 4 lb_X12_soonest_1 rfl) (dl_at 32 5 lb_X12_soonest_1 rfl) (dl_at 32 6 lb_X12_soonest_1 rfl) rfl
theorem dX12_soonest_39 : decode cX12_soonest 39 = .ok (.aload_n 0, 1) := dx_42 (dl_at 32 7 lb_X12_soonest_1 rfl)
theorem dX12_soonest_40 : decode cX12_soonest 40 = .ok (.getfield 235, 3) := dx_180 (a := 0) (b := 235) (dl_at 32 8 lb_X12_soonest_1 rfl) (dl_at 32 9 lb_X12_soonest_1 rfl) (dl_at 32 10 lb_X12_soonest_1 rfl) rfl
theorem dX12_soonest_43 : decode cX12_soonest 43 = .ok (.invokevirtual 269, 3) := dx_182 (a := 1) (b := 13) (dl_at 32 11 lb_X12_soonest_1 rfl) (dl_at 32 12 lb_X12_soonest_1 rfl) (dl_at 32 13 lb_X12_soonest_1 rfl) rfl
theorem dX12_soonest_46 : decode cX12_soonest 46 = .ok (.aload_n 0, 1) := dx_42 (dl_at 32 14 lb_X12_soonest_1 rfl)
theorem dX12_soonest_47 : decode cX12_soonest 47 = .ok (.aload_n 0, 1) := dx_42 (dl_at 32 15 lb_X12_soonest_1 rfl)
theorem dX12_soonest_48 : decode cX12_soonest 48 = .ok (.getfield 238, 3) := dx_180 (a := 0) (b := 238) (dl_at 32 16 lb_X12_soonest_1 rfl) (dl_at 32 17 lb_X12_soonest_1 rfl) (dl_at 32 18 lb_X12_soonest_1 rfl) rfl
theorem dX12_soonest_51 : decode cX12_soonest 51 = .ok (.aload_n 0, 1) := dx_42 (dl_at 32 19 lb_X12_soonest_1 rfl)
theorem dX12_soonest_52 : decode cX12_soonest 52 = .ok (.getfield 235, 3) := dx_180 (a := 0) (b := 235) (dl_at 32 20 lb_X12_soonest_1 rfl) (dl_at 32 21 lb_X12_soonest_1 rfl) (dl_at 32 22 lb_X12_soonest_1 rfl) rfl
theorem dX12_soonest_55 : decode cX12_soonest 55 = .ok (.iconst 1, 1) := dx_4 (dl_at 32 23 lb_X12_soonest_1 rfl)
theorem dX12_soonest_56 : decode cX12_soonest 56 = .ok (.isub, 1) := dx_100 (dl_at 32 24 lb_X12_soonest_1 rfl)
theorem dX12_soonest_57 : decode cX12_soonest 57 = .ok (.invokevirtual 103, 3) := dx_182 (a := 0) (b := 103) (dl_at 32 25 lb_X12_soonest_1 rfl) (dl_at 32 26 lb_X12_soonest_1 rfl) (dl_at 32 27 lb_X12_soonest_1 rfl) rfl
theorem dX12_soonest_60 : decode cX12_soonest 60 = .ok (.ireturn, 1) := dx_172 (dl_at 32 28 lb_X12_soonest_1 rfl)
theorem dX12_soonest_30 : decode cX12_soonest 30 = .ok (.bipush (-9), 2) := dx_16 (dl_at 0 30 lb_X12_soonest_0 rfl) (dl_at 0 31 lb_X12_soonest_0 rfl) sg8_247
theorem dX12_soonest_32 : decode cX12_soonest 32 = .ok (.ireturn, 1) := dx_172 (dl_at 32 0 lb_X12_soonest_1 rfl)
theorem dX12_soonest_21 : decode cX12_soonest 21 = .ok (.iload_n 3, 1) := dx_29 (dl_at 0 21 lb_X12_soonest_0 rfl)
theorem dX12_soonest_22 : decode cX12_soonest 22 = .ok (.ireturn, 1) := dx_172 (dl_at 0 22 lb_X12_soonest_0 rfl)
theorem dX12_soonest_7 : decode cX12_soonest 7 = .ok (.iconst (-1), 1) := dx_2 (dl_at 0 7 lb_X12_soonest_0 rfl)
theorem dX12_soonest_8 : decode cX12_soonest 8 = .ok (.goto 8, 3) := dx_167 (a := 0) (b := 8) (dl_at 0 8 lb_X12_soonest_0 rfl) (dl_at 0 9 lb_X12_soonest_0 rfl) (dl_at 0 10 lb_X12_soonest_0 rfl) sg16_8
theorem lb_X12_comes_0 : dl_ck (cX12_comes.data.toList.drop 0) [42, 27, 182, 1, 10, 61, 28, 156, 0, 7, 28, 167, 0, 15, 42, 42, 180, 0, 210, 42, 180, 0, 229, 182, 0, 103, 172] = true := by decide +kernel
theorem dX12_comes_0 : decode cX12_comes 0 = .ok (.aload_n 0, 1) := dx_42 (dl_at 0 0 lb_X12_comes_0 rfl)
theorem dX12_comes_1 : decode cX12_comes 1 = .ok (.iload_n 1, 1) := dx_27 (dl_at 0 1 lb_X12_comes_0 rfl)
theorem dX12_comes_2 : decode cX12_comes 2 = .ok (.invokevirtual 266, 3) := dx_182 (a := 1) (b := 10) (dl_at 0 2 lb_X12_comes_0 rfl) (dl_at 0 3 lb_X12_comes_0 rfl) (dl_at 0 4 lb_X12_comes_0 rfl) rfl
theorem dX12_comes_5 : decode cX12_comes 5 = .ok (.istore_n 2, 1) := dx_61 (dl_at 0 5 lb_X12_comes_0 rfl)
theorem dX12_comes_6 : decode cX12_comes 6 = .ok (.iload_n 2, 1) := dx_28 (dl_at 0 6 lb_X12_comes_0 rfl)
theorem dX12_comes_7 : decode cX12_comes 7 = .ok (.ifCond .ge 7, 3) := dx_156 (a := 0) (b := 7) (dl_at 0 7 lb_X12_comes_0 rfl) (dl_at 0 8 lb_X12_comes_0 rfl) (dl_at 0 9 lb_X12_comes_0 rfl) sg16_7
theorem dX12_comes_14 : decode cX12_comes 14 = .ok (.aload_n 0, 1) := dx_42 (dl_at 0 14 lb_X12_comes_0 rfl)
theorem dX12_comes_15 : decode cX12_comes 15 = .ok (.aload_n 0, 1) := dx_42 (dl_at 0 15 lb_X12_comes_0 rfl)
theorem dX12_comes_16 : decode cX12_comes 16 = .ok (.getfield 210, 3) := dx_180 (a := 0) (b := 210) (dl_at 0 16 lb_X12_comes_0 rfl) (dl_at 0 17 lb_X12_comes_0 rfl) (dl_at 0 18 lb_X12_comes_0 rfl) rfl
theorem dX12_comes_19 : decode cX12_comes 19 = .ok (.aload_n 0, 1) := dx_42 (dl_at 0 19 lb_X12_comes_0 rfl)
theorem dX12_comes_20 : decode cX12_comes 20 = .ok (.getfield 229, 3) := dx_180 (a := 0) (b := 229) (dl_at 0 20 lb_X12_comes_0 rfl) (dl_at 0 21 lb_X12_comes_0 rfl) (dl_at 0 22 lb_X12_comes_0 rfl) rfl
theorem dX12_comes_23 : decode cX12_comes 23 = .ok (.invokevirtual 103, 3) := dx_182 (a := 0) (b := 103) (dl_at 0 23 lb_X12_comes_0 rfl) (dl_at 0 24 lb_X12_comes_0 rfl) (dl_at 0 25 lb_X12_comes_0 rfl) rfl
theorem dX12_comes_26 : decode cX12_comes 26 = .ok (.ireturn, 1) := dx_172 (dl_at 0 26 lb_X12_comes_0 rfl)
theorem dX12_comes_10 : decode cX12_comes 10 = .ok (.iload_n 2, 1) := dx_28 (dl_at 0 10 lb_X12_comes_0 rfl)
theorem dX12_comes_11 : decode cX12_comes 11 = .ok (.goto 15, 3) := dx_167 (a := 0) (b := 15) (dl_at 0 11 lb_X12_comes_0 rfl) (dl_at 0 12 lb_X12_comes_0 rfl) (dl_at 0 13 lb_X12_comes_0 rfl) sg16_15
theorem lb_X12_bars_0 : dl_ck (cX12_bars.data.toList.drop 0) [42, 27, 182, 1, 10, 61, 28, 156, 0, 7, 28, 167, 0, 18, 42, 180, 0, 229, 154, 0, 7, 3, 167, 0, 7, 42, 180, 0, 232, 172] = true := by decide +kernel
theorem dX12_bars_0 : decode cX12_bars 0 = .ok (.aload_n 0, 1) := dx_42 (dl_at 0 0 lb_X12_bars_0 rfl)
theorem dX12_bars_1 : decode cX12_bars 1 = .ok (.iload_n 1, 1) := dx_27 (dl_at 0 1 lb_X12_bars_0 rfl)
theorem dX12_bars_2 : decode cX12_bars 2 = .ok (.invokevirtual 266, 3) := dx_182 (a := 1) (b := 10) (dl_at 0 2 lb_X12_bars_0 rfl) (dl_at 0 3 lb_X12_bars_0 rfl) (dl_at 0 4 lb_X12_bars_0 rfl) rfl
theorem dX12_bars_5 : decode cX12_bars 5 = .ok (.istore_n 2, 1) := dx_61 (dl_at 0 5 lb_X12_bars_0 rfl)
theorem dX12_bars_6 : decode cX12_bars 6 = .ok (.iload_n 2, 1) := dx_28 (dl_at 0 6 lb_X12_bars_0 rfl)
theorem dX12_bars_7 : decode cX12_bars 7 = .ok (.ifCond .ge 7, 3) := dx_156 (a := 0) (b := 7) (dl_at 0 7 lb_X12_bars_0 rfl) (dl_at 0 8 lb_X12_bars_0 rfl) (dl_at 0 9 lb_X12_bars_0 rfl) sg16_7
theorem dX12_bars_14 : decode cX12_bars 14 = .ok (.aload_n 0, 1) := dx_42 (dl_at 0 14 lb_X12_bars_0 rfl)
theorem dX12_bars_15 : decode cX12_bars 15 = .ok (.getfield 229, 3) := dx_180 (a := 0) (b := 229) (dl_at 0 15 lb_X12_bars_0 rfl) (dl_at 0 16 lb_X12_bars_0 rfl) (dl_at 0 17 lb_X12_bars_0 rfl) rfl
theorem dX12_bars_18 : decode cX12_bars 18 = .ok (.ifCond .ne 7, 3) := dx_154 (a := 0) (b := 7) (dl_at 0 18 lb_X12_bars_0 rfl) (dl_at 0 19 lb_X12_bars_0 rfl) (dl_at 0 20 lb_X12_bars_0 rfl) sg16_7
theorem dX12_bars_25 : decode cX12_bars 25 = .ok (.aload_n 0, 1) := dx_42 (dl_at 0 25 lb_X12_bars_0 rfl)
theorem dX12_bars_26 : decode cX12_bars 26 = .ok (.getfield 232, 3) := dx_180 (a := 0) (b := 232) (dl_at 0 26 lb_X12_bars_0 rfl) (dl_at 0 27 lb_X12_bars_0 rfl) (dl_at 0 28 lb_X12_bars_0 rfl) rfl
theorem dX12_bars_29 : decode cX12_bars 29 = .ok (.ireturn, 1) := dx_172 (dl_at 0 29 lb_X12_bars_0 rfl)
theorem dX12_bars_21 : decode cX12_bars 21 = .ok (.iconst 0, 1) := dx_3 (dl_at 0 21 lb_X12_bars_0 rfl)
theorem dX12_bars_22 : decode cX12_bars 22 = .ok (.goto 7, 3) := dx_167 (a := 0) (b := 7) (dl_at 0 22 lb_X12_bars_0 rfl) (dl_at 0 23 lb_X12_bars_0 rfl) (dl_at 0 24 lb_X12_bars_0 rfl) sg16_7
theorem dX12_bars_10 : decode cX12_bars 10 = .ok (.iload_n 2, 1) := dx_28 (dl_at 0 10 lb_X12_bars_0 rfl)
theorem dX12_bars_11 : decode cX12_bars 11 = .ok (.goto 18, 3) := dx_167 (a := 0) (b := 18) (dl_at 0 11 lb_X12_bars_0 rfl) (dl_at 0 12 lb_X12_bars_0 rfl) (dl_at 0 13 lb_X12_bars_0 rfl) sg16_18
theorem lb_X12_why_0 : dl_ck (cX12_why.data.toList.drop 0) [42, 27, 182, 1, 10, 61, 28, 156, 0, 5, 28, 172, 42, 180, 0, 229, 158, 0, 5, 3, 172, 42, 180, 0, 210, 158, 0, 5, 6, 172, 42, 3] = true := by decide +kernel
theorem lb_X12_why_1 : dl_ck (cX12_why.data.toList.drop 32) [181, 0, 241, 42, 27, 182, 1, 3, 42, 180, 0, 210, 158, 0, 7, 5, 167, 0, 4, 4, 172] = true := by decide +kernel
theorem dX12_why_0 : decode cX12_why 0 = .ok (.aload_n 0, 1) := dx_42 (dl_at 0 0 lb_X12_why_0 rfl)
theorem dX12_why_1 : decode cX12_why 1 = .ok (.iload_n 1, 1) := dx_27 (dl_at 0 1 lb_X12_why_0 rfl)
theorem dX12_why_2 : decode cX12_why 2 = .ok (.invokevirtual 266, 3) := dx_182 (a := 1) (b := 10) (dl_at 0 2 lb_X12_why_0 rfl) (dl_at 0 3 lb_X12_why_0 rfl) (dl_at 0 4 lb_X12_why_0 rfl) rfl
theorem dX12_why_5 : decode cX12_why 5 = .ok (.istore_n 2, 1) := dx_61 (dl_at 0 5 lb_X12_why_0 rfl)
theorem dX12_why_6 : decode cX12_why 6 = .ok (.iload_n 2, 1) := dx_28 (dl_at 0 6 lb_X12_why_0 rfl)
theorem dX12_why_7 : decode cX12_why 7 = .ok (.ifCond .ge 5, 3) := dx_156 (a := 0) (b := 5) (dl_at 0 7 lb_X12_why_0 rfl) (dl_at 0 8 lb_X12_why_0 rfl) (dl_at 0 9 lb_X12_why_0 rfl) sg16_5
theorem dX12_why_12 : decode cX12_why 12 = .ok (.aload_n 0, 1) := dx_42 (dl_at 0 12 lb_X12_why_0 rfl)
theorem dX12_why_13 : decode cX12_why 13 = .ok (.getfield 229, 3) := dx_180 (a := 0) (b := 229) (dl_at 0 13 lb_X12_why_0 rfl) (dl_at 0 14 lb_X12_why_0 rfl) (dl_at 0 15 lb_X12_why_0 rfl) rfl
theorem dX12_why_16 : decode cX12_why 16 = .ok (.ifCond .le 5, 3) := dx_158 (a := 0) (b := 5) (dl_at 0 16 lb_X12_why_0 rfl) (dl_at 0 17 lb_X12_why_0 rfl) (dl_at 0 18 lb_X12_why_0 rfl) sg16_5
theorem dX12_why_21 : decode cX12_why 21 = .ok (.aload_n 0, 1) := dx_42 (dl_at 0 21 lb_X12_why_0 rfl)
theorem dX12_why_22 : decode cX12_why 22 = .ok (.getfield 210, 3) := dx_180 (a := 0) (b := 210) (dl_at 0 22 lb_X12_why_0 rfl) (dl_at 0 23 lb_X12_why_0 rfl) (dl_at 0 24 lb_X12_why_0 rfl) rfl
theorem dX12_why_25 : decode cX12_why 25 = .ok (.ifCond .le 5, 3) := dx_158 (a := 0) (b := 5) (dl_at 0 25 lb_X12_why_0 rfl) (dl_at 0 26 lb_X12_why_0 rfl) (dl_at 0 27 lb_X12_why_0 rfl) sg16_5
theorem dX12_why_30 : decode cX12_why 30 = .ok (.aload_n 0, 1) := dx_42 (dl_at 0 30 lb_X12_why_0 rfl)
theorem dX12_why_31 : decode cX12_why 31 = .ok (.iconst 0, 1) := dx_3 (dl_at 0 31 lb_X12_why_0 rfl)
theorem dX12_why_32 : decode cX12_why 32 = .ok (.putfield 241, 3) := dx_181 (a := 0) (b := 241) (dl_at 32 0 lb_X12_why_1 rfl) (dl_at 32 1 lb_X12_why_1 rfl) (dl_at 32 2 lb_X12_why_1 rfl) rfl
theorem dX12_why_35 : decode cX12_why 35 = .ok (.aload_n 0, 1) := dx_42 (dl_at 32 3 lb_X12_why_1 rfl)
theorem dX12_why_36 : decode cX12_why 36 = .ok (.iload_n 1, 1) := dx_27 (dl_at 32 4 lb_X12_why_1 rfl)
theorem dX12_why_37 : decode cX12_why 37 = .ok (.invokevirtual 259, 3) := dx_182 (a := 1) (b := 3) (dl_at 32 5 lb_X12_why_1 rfl) (dl_at 32 6 lb_X12_why_1 rfl) (dl_at 32 7 lb_X12_why_1 rfl) rfl
theorem dX12_why_40 : decode cX12_why 40 = .ok (.aload_n 0, 1) := dx_42 (dl_at 32 8 lb_X12_why_1 rfl)
theorem dX12_why_41 : decode cX12_why 41 = .ok (.getfield 210, 3) := dx_180 (a := 0) (b := 210) (dl_at 32 9 lb_X12_why_1 rfl) (dl_at 32 10 lb_X12_why_1 rfl) (dl_at 32 11 lb_X12_why_1 rfl) rfl
theorem dX12_why_44 : decode cX12_why 44 = .ok (.ifCond .le 7, 3) := dx_158 (a := 0) (b := 7) (dl_at 32 12 lb_X12_why_1 rfl) (dl_at 32 13 lb_X12_why_1 rfl) (dl_at 32 14 lb_X12_why_1 rfl) sg16_7
theorem dX12_why_51 : decode cX12_why 51 = .ok (.iconst 1, 1) := dx_4 (dl_at 32 19 lb_X12_why_1 rfl)
theorem dX12_why_52 : decode cX12_why 52 = .ok (.ireturn, 1) := dx_172 (dl_at 32 20 lb_X12_why_1 rfl)
theorem dX12_why_47 : decode cX12_why 47 = .ok (.iconst 2, 1) := dx_5 (dl_at 32 15 lb_X12_why_1 rfl)
theorem dX12_why_48 : decode cX12_why 48 = .ok (.goto 4, 3) := dx_167 (a := 0) (b := 4) (dl_at 32 16 lb_X12_why_1 rfl) (dl_at 32 17 lb_X12_why_1 rfl) (dl_at 32 18 lb_X12_why_1 rfl) sg16_4
theorem dX12_why_28 : decode cX12_why 28 = .ok (.iconst 3, 1) := dx_6 (dl_at 0 28 lb_X12_why_0 rfl)
theorem dX12_why_29 : decode cX12_why 29 = .ok (.ireturn, 1) := dx_172 (dl_at 0 29 lb_X12_why_0 rfl)
theorem dX12_why_19 : decode cX12_why 19 = .ok (.iconst 0, 1) := dx_3 (dl_at 0 19 lb_X12_why_0 rfl)
theorem dX12_why_20 : decode cX12_why 20 = .ok (.ireturn, 1) := dx_172 (dl_at 0 20 lb_X12_why_0 rfl)
theorem dX12_why_10 : decode cX12_why 10 = .ok (.iload_n 2, 1) := dx_28 (dl_at 0 10 lb_X12_why_0 rfl)
theorem dX12_why_11 : decode cX12_why 11 = .ok (.ireturn, 1) := dx_172 (dl_at 0 11 lb_X12_why_0 rfl)
theorem lb_X12_needs_0 : dl_ck (cX12_needs.data.toList.drop 0) [42, 27, 182, 1, 10, 61, 28, 156, 0, 7, 28, 167, 0, 22, 42, 180, 0, 226, 17, 3, 231, 164, 0, 8, 16, 247, 167, 0, 7, 42, 180, 0] = true := by decide +kernel
theorem lb_X12_needs_1 : dl_ck (cX12_needs.data.toList.drop 32) [226, 172] = true := by decide +kernel
theorem dX12_needs_0 : decode cX12_needs 0 = .ok (.aload_n 0, 1) := dx_42 (dl_at 0 0 lb_X12_needs_0 rfl)
theorem dX12_needs_1 : decode cX12_needs 1 = .ok (.iload_n 1, 1) := dx_27 (dl_at 0 1 lb_X12_needs_0 rfl)
theorem dX12_needs_2 : decode cX12_needs 2 = .ok (.invokevirtual 266, 3) := dx_182 (a := 1) (b := 10) (dl_at 0 2 lb_X12_needs_0 rfl) (dl_at 0 3 lb_X12_needs_0 rfl) (dl_at 0 4 lb_X12_needs_0 rfl) rfl
theorem dX12_needs_5 : decode cX12_needs 5 = .ok (.istore_n 2, 1) := dx_61 (dl_at 0 5 lb_X12_needs_0 rfl)
theorem dX12_needs_6 : decode cX12_needs 6 = .ok (.iload_n 2, 1) := dx_28 (dl_at 0 6 lb_X12_needs_0 rfl)
theorem dX12_needs_7 : decode cX12_needs 7 = .ok (.ifCond .ge 7, 3) := dx_156 (a := 0) (b := 7) (dl_at 0 7 lb_X12_needs_0 rfl) (dl_at 0 8 lb_X12_needs_0 rfl) (dl_at 0 9 lb_X12_needs_0 rfl) sg16_7
theorem dX12_needs_14 : decode cX12_needs 14 = .ok (.aload_n 0, 1) := dx_42 (dl_at 0 14 lb_X12_needs_0 rfl)
theorem dX12_needs_15 : decode cX12_needs 15 = .ok (.getfield 226, 3) := dx_180 (a := 0) (b := 226) (dl_at 0 15 lb_X12_needs_0 rfl) (dl_at 0 16 lb_X12_needs_0 rfl) (dl_at 0 17 lb_X12_needs_0 rfl) rfl
theorem dX12_needs_18 : decode cX12_needs 18 = .ok (.sipush 999, 3) := dx_17 (a := 3) (b := 231) (dl_at 0 18 lb_X12_needs_0 rfl) (dl_at 0 19 lb_X12_needs_0 rfl) (dl_at 0 20 lb_X12_needs_0 rfl) sg16_999
theorem dX12_needs_21 : decode cX12_needs 21 = .ok (.if_icmp .le 8, 3) := dx_164 (a := 0) (b := 8) (dl_at 0 21 lb_X12_needs_0 rfl) (dl_at 0 22 lb_X12_needs_0 rfl) (dl_at 0 23 lb_X12_needs_0 rfl) sg16_8
theorem dX12_needs_29 : decode cX12_needs 29 = .ok (.aload_n 0, 1) := dx_42 (dl_at 0 29 lb_X12_needs_0 rfl)
theorem dX12_needs_30 : decode cX12_needs 30 = .ok (.getfield 226, 3) := dx_180 (a := 0) (b := 226) (dl_at 0 30 lb_X12_needs_0 rfl) (dl_at 0 31 lb_X12_needs_0 rfl) (dl_at 32 0 lb_X12_needs_1 rfl) rfl
theorem dX12_needs_33 : decode cX12_needs 33 = .ok (.ireturn, 1) := dx_172 (dl_at 32 1 lb_X12_needs_1 rfl)
theorem dX12_needs_24 : decode cX12_needs 24 = .ok (.bipush (-9), 2) := dx_16 (dl_at 0 24 lb_X12_needs_0 rfl) (dl_at 0 25 lb_X12_needs_0 rfl) sg8_247
theorem dX12_needs_26 : decode cX12_needs 26 = .ok (.goto 7, 3) := dx_167 (a := 0) (b := 7) (dl_at 0 26 lb_X12_needs_0 rfl) (dl_at 0 27 lb_X12_needs_0 rfl) (dl_at 0 28 lb_X12_needs_0 rfl) sg16_7
theorem dX12_needs_10 : decode cX12_needs 10 = .ok (.iload_n 2, 1) := dx_28 (dl_at 0 10 lb_X12_needs_0 rfl)
theorem dX12_needs_11 : decode cX12_needs 11 = .ok (.goto 22, 3) := dx_167 (a := 0) (b := 22) (dl_at 0 11 lb_X12_needs_0 rfl) (dl_at 0 12 lb_X12_needs_0 rfl) (dl_at 0 13 lb_X12_needs_0 rfl) sg16_22
theorem lb_X12_lend_0 : dl_ck (cX12_lend.data.toList.drop 0) [42, 27, 182, 1, 10, 61, 28, 156, 0, 5, 28, 172, 16, 247, 62, 18, 254, 54, 4, 3, 54, 5, 21, 5, 42, 180, 0, 136, 162, 0, 130, 21] = true := by decide +kernel
theorem lb_X12_lend_1 : dl_ck (cX12_lend.data.toList.drop 32) [5, 42, 27, 8, 182, 0, 161, 159, 0, 29, 42, 180, 0, 28, 21, 5, 46, 6, 160, 0, 14, 21, 5, 42, 27, 4, 182, 0, 161, 160, 0, 7] = true := by decide +kernel
theorem lb_X12_lend_2 : dl_ck (cX12_lend.data.toList.drop 64) [4, 167, 0, 4, 3, 54, 6, 42, 180, 0, 31, 21, 5, 46, 54, 7, 42, 180, 0, 31, 21, 5, 16, 99, 79, 42, 27, 182, 1, 3, 42, 180] = true := by decide +kernel
theorem lb_X12_lend_3 : dl_ck (cX12_lend.data.toList.drop 96) [0, 31, 21, 5, 21, 7, 79, 21, 6, 153, 0, 16, 42, 180, 0, 213, 21, 4, 162, 0, 7, 4, 167, 0, 4, 3, 54, 8, 21, 8, 153, 0] = true := by decide +kernel
theorem lb_X12_lend_4 : dl_ck (cX12_lend.data.toList.drop 128) [8, 21, 5, 167, 0, 4, 29, 62, 21, 8, 153, 0, 10, 42, 180, 0, 213, 167, 0, 5, 21, 4, 54, 4, 132, 5, 1, 167, 255, 123, 29, 16] = true := by decide +kernel
theorem lb_X12_lend_5 : dl_ck (cX12_lend.data.toList.drop 160) [247, 160, 0, 8, 16, 247, 167, 0, 10, 42, 21, 4, 29, 182, 0, 103, 172] = true := by decide +kernel
theorem dX12_lend_0 : decode cX12_lend 0 = .ok (.aload_n 0, 1) := dx_42 (dl_at 0 0 lb_X12_lend_0 rfl)
theorem dX12_lend_1 : decode cX12_lend 1 = .ok (.iload_n 1, 1) := dx_27 (dl_at 0 1 lb_X12_lend_0 rfl)
theorem dX12_lend_2 : decode cX12_lend 2 = .ok (.invokevirtual 266, 3) := dx_182 (a := 1) (b := 10) (dl_at 0 2 lb_X12_lend_0 rfl) (dl_at 0 3 lb_X12_lend_0 rfl) (dl_at 0 4 lb_X12_lend_0 rfl) rfl
theorem dX12_lend_5 : decode cX12_lend 5 = .ok (.istore_n 2, 1) := dx_61 (dl_at 0 5 lb_X12_lend_0 rfl)
theorem dX12_lend_6 : decode cX12_lend 6 = .ok (.iload_n 2, 1) := dx_28 (dl_at 0 6 lb_X12_lend_0 rfl)
theorem dX12_lend_7 : decode cX12_lend 7 = .ok (.ifCond .ge 5, 3) := dx_156 (a := 0) (b := 5) (dl_at 0 7 lb_X12_lend_0 rfl) (dl_at 0 8 lb_X12_lend_0 rfl) (dl_at 0 9 lb_X12_lend_0 rfl) sg16_5
theorem dX12_lend_12 : decode cX12_lend 12 = .ok (.bipush (-9), 2) := dx_16 (dl_at 0 12 lb_X12_lend_0 rfl) (dl_at 0 13 lb_X12_lend_0 rfl) sg8_247
theorem dX12_lend_14 : decode cX12_lend 14 = .ok (.istore_n 3, 1) := dx_62 (dl_at 0 14 lb_X12_lend_0 rfl)
theorem dX12_lend_15 : decode cX12_lend 15 = .ok (.ldc 254, 2) := dx_18 (dl_at 0 15 lb_X12_lend_0 rfl) (dl_at 0 16 lb_X12_lend_0 rfl)
theorem dX12_lend_17 : decode cX12_lend 17 = .ok (.istore 4, 2) := dx_54 (dl_at 0 17 lb_X12_lend_0 rfl) (dl_at 0 18 lb_X12_lend_0 rfl)
theorem dX12_lend_19 : decode cX12_lend 19 = .ok (.iconst 0, 1) := dx_3 (dl_at 0 19 lb_X12_lend_0 rfl)
theorem dX12_lend_20 : decode cX12_lend 20 = .ok (.istore 5, 2) := dx_54 (dl_at 0 20 lb_X12_lend_0 rfl) (dl_at 0 21 lb_X12_lend_0 rfl)
theorem dX12_lend_22 : decode cX12_lend 22 = .ok (.iload 5, 2) := dx_21 (dl_at 0 22 lb_X12_lend_0 rfl) (dl_at 0 23 lb_X12_lend_0 rfl)
theorem dX12_lend_24 : decode cX12_lend 24 = .ok (.aload_n 0, 1) := dx_42 (dl_at 0 24 lb_X12_lend_0 rfl)
theorem dX12_lend_25 : decode cX12_lend 25 = .ok (.getfield 136, 3) := dx_180 (a := 0) (b := 136) (dl_at 0 25 lb_X12_lend_0 rfl) (dl_at 0 26 lb_X12_lend_0 rfl) (dl_at 0 27 lb_X12_lend_0 rfl) rfl
theorem dX12_lend_28 : decode cX12_lend 28 = .ok (.if_icmp .ge 130, 3) := dx_162 (a := 0) (b := 130) (dl_at 0 28 lb_X12_lend_0 rfl) (dl_at 0 29 lb_X12_lend_0 rfl) (dl_at 0 30 lb_X12_lend_0 rfl) sg16_130
theorem dX12_lend_158 : decode cX12_lend 158 = .ok (.iload_n 3, 1) := dx_29 (dl_at 128 30 lb_X12_lend_4 rfl)
theorem dX12_lend_159 : decode cX12_lend 159 = .ok (.bipush (-9), 2) := dx_16 (dl_at 128 31 lb_X12_lend_4 rfl) (dl_at 160 0 lb_X12_lend_5 rfl) sg8_247
theorem dX12_lend_161 : decode cX12_lend 161 = .ok (.if_icmp .ne 8, 3) := dx_160 (a := 0) (b := 8) (dl_at 160 1 lb_X12_lend_5 rfl) (dl_at 160 2 lb_X12_lend_5 rfl) (dl_at 160 3 lb_X12_lend_5 rfl) sg16_8
theorem dX12_lend_169 : decode cX12_lend 169 = .ok (.aload_n 0, 1) := dx_42 (dl_at 160 9 lb_X12_lend_5 rfl)
theorem dX12_lend_170 : decode cX12_lend 170 = .ok (.iload 4, 2) := dx_21 (dl_at 160 10 lb_X12_lend_5 rfl) (dl_at 160 11 lb_X12_lend_5 rfl)
theorem dX12_lend_172 : decode cX12_lend 172 = .ok (.iload_n 3, 1) := dx_29 (dl_at 160 12 lb_X12_lend_5 rfl)
theorem dX12_lend_173 : decode cX12_lend 173 = .ok (.invokevirtual 103, 3) := dx_182 (a := 0) (b := 103) (dl_at 160 13 lb_X12_lend_5 rfl) (dl_at 160 14 lb_X12_lend_5 rfl) (dl_at 160 15 lb_X12_lend_5 rfl) rfl
theorem dX12_lend_176 : decode cX12_lend 176 = .ok (.ireturn, 1) := dx_172 (dl_at 160 16 lb_X12_lend_5 rfl)
theorem dX12_lend_164 : decode cX12_lend 164 = .ok (.bipush (-9), 2) := dx_16 (dl_at 160 4 lb_X12_lend_5 rfl) (dl_at 160 5 lb_X12_lend_5 rfl) sg8_247
theorem dX12_lend_166 : decode cX12_lend 166 = .ok (.goto 10, 3) := dx_167 (a := 0) (b := 10) (dl_at 160 6 lb_X12_lend_5 rfl) (dl_at 160 7 lb_X12_lend_5 rfl) (dl_at 160 8 lb_X12_lend_5 rfl) sg16_10
theorem dX12_lend_31 : decode cX12_lend 31 = .ok (.iload 5, 2) := dx_21 (dl_at 0 31 lb_X12_lend_0 rfl) (dl_at 32 0 lb_X12_lend_1 rfl)
theorem dX12_lend_33 : decode cX12_lend 33 = .ok (.aload_n 0, 1) := dx_42 (dl_at 32 1 lb_X12_lend_1 rfl)
theorem dX12_lend_34 : decode cX12_lend 34 = .ok (.iload_n 1, 1) := dx_27 (dl_at 32 2 lb_X12_lend_1 rfl)
theorem dX12_lend_35 : decode cX12_lend 35 = .ok (.iconst 5, 1) := dx_8 (dl_at 32 3 lb_X12_lend_1 rfl)
theorem dX12_lend_36 : decode cX12_lend 36 = .ok (.invokevirtual 161, 3) := dx_182 (a := 0) (b := 161) (dl_at 32 4 lb_X12_lend_1 rfl) (dl_at 32 5 lb_X12_lend_1 rfl) (dl_at 32 6 lb_X12_lend_1 rfl) rfl
theorem dX12_lend_39 : decode cX12_lend 39 = .ok (.if_icmp .eq 29, 3) := dx_159 (a := 0) (b := 29) (dl_at 32 7 lb_X12_lend_1 rfl) (dl_at 32 8 lb_X12_lend_1 rfl) (dl_at 32 9 lb_X12_lend_1 rfl) sg16_29
theorem dX12_lend_68 : decode cX12_lend 68 = .ok (.iconst 0, 1) := dx_3 (dl_at 64 4 lb_X12_lend_2 rfl)
theorem dX12_lend_69 : decode cX12_lend 69 = .ok (.istore 6, 2) := dx_54 (dl_at 64 5 lb_X12_lend_2 rfl) (dl_at 64 6 lb_X12_lend_2 rfl)
theorem dX12_lend_71 : decode cX12_lend 71 = .ok (.aload_n 0, 1) := dx_42 (dl_at 64 7 lb_X12_lend_2 rfl)
theorem dX12_lend_72 : decode cX12_lend 72 = .ok (.getfield 31, 3) := dx_180 (a := 0) (b := 31) (dl_at 64 8 lb_X12_lend_2 rfl) (dl_at 64 9 lb_X12_lend_2 rfl) (dl_at 64 10 lb_X12_lend_2 rfl) rfl
theorem dX12_lend_75 : decode cX12_lend 75 = .ok (.iload 5, 2) := dx_21 (dl_at 64 11 lb_X12_lend_2 rfl) (dl_at 64 12 lb_X12_lend_2 rfl)
theorem dX12_lend_77 : decode cX12_lend 77 = .ok (.iaload, 1) := dx_46 (dl_at 64 13 lb_X12_lend_2 rfl)
theorem dX12_lend_78 : decode cX12_lend 78 = .ok (.istore 7, 2) := dx_54 (dl_at 64 14 lb_X12_lend_2 rfl) (dl_at 64 15 lb_X12_lend_2 rfl)
theorem dX12_lend_80 : decode cX12_lend 80 = .ok (.aload_n 0, 1) := dx_42 (dl_at 64 16 lb_X12_lend_2 rfl)
theorem dX12_lend_81 : decode cX12_lend 81 = .ok (.getfield 31, 3) := dx_180 (a := 0) (b := 31) (dl_at 64 17 lb_X12_lend_2 rfl) (dl_at 64 18 lb_X12_lend_2 rfl) (dl_at 64 19 lb_X12_lend_2 rfl) rfl
theorem dX12_lend_84 : decode cX12_lend 84 = .ok (.iload 5, 2) := dx_21 (dl_at 64 20 lb_X12_lend_2 rfl) (dl_at 64 21 lb_X12_lend_2 rfl)
theorem dX12_lend_86 : decode cX12_lend 86 = .ok (.bipush 99, 2) := dx_16 (dl_at 64 22 lb_X12_lend_2 rfl) (dl_at 64 23 lb_X12_lend_2 rfl) sg8_99
theorem dX12_lend_88 : decode cX12_lend 88 = .ok (.iastore, 1) := dx_79 (dl_at 64 24 lb_X12_lend_2 rfl)
theorem dX12_lend_89 : decode cX12_lend 89 = .ok (.aload_n 0, 1) := dx_42 (dl_at 64 25 lb_X12_lend_2 rfl)
theorem dX12_lend_90 : decode cX12_lend 90 = .ok (.iload_n 1, 1) := dx_27 (dl_at 64 26 lb_X12_lend_2 rfl)
theorem dX12_lend_91 : decode cX12_lend 91 = .ok (.invokevirtual 259, 3) := dx_182 (a := 1) (b := 3) (dl_at 64 27 lb_X12_lend_2 rfl) (dl_at 64 28 lb_X12_lend_2 rfl) (dl_at 64 29 lb_X12_lend_2 rfl) rfl
theorem dX12_lend_94 : decode cX12_lend 94 = .ok (.aload_n 0, 1) := dx_42 (dl_at 64 30 lb_X12_lend_2 rfl)
theorem dX12_lend_95 : decode cX12_lend 95 = .ok (.getfield 31, 3) := dx_180 (a := 0) (b := 31) (dl_at 64 31 lb_X12_lend_2 rfl) (dl_at 96 0 lb_X12_lend_3 rfl) (dl_at 96 1 lb_X12_lend_3 rfl) rfl
theorem dX12_lend_98 : decode cX12_lend 98 = .ok (.iload 5, 2) := dx_21 (dl_at 96 2 lb_X12_lend_3 rfl) (dl_at 96 3 lb_X12_lend_3 rfl)
theorem dX12_lend_100 : decode cX12_lend 100 = .ok (.iload 7, 2) := dx_21 (dl_at 96 4 lb_X12_lend_3 rfl) (dl_at 96 5 lb_X12_lend_3 rfl)
theorem dX12_lend_102 : decode cX12_lend 102 = .ok (.iastore, 1) := dx_79 (dl_at 96 6 lb_X12_lend_3 rfl)
theorem dX12_lend_103 : decode cX12_lend 103 = .ok (.iload 6, 2) := dx_21 (dl_at 96 7 lb_X12_lend_3 rfl) (dl_at 96 8 lb_X12_lend_3 rfl)
theorem dX12_lend_105 : decode cX12_lend 105 = .ok (.ifCond .eq 16, 3) := dx_153 (a := 0) (b := 16) (dl_at 96 9 lb_X12_lend_3 rfl) (dl_at 96 10 lb_X12_lend_3 rfl) (dl_at 96 11 lb_X12_lend_3 rfl) sg16_16
theorem dX12_lend_121 : decode cX12_lend 121 = .ok (.iconst 0, 1) := dx_3 (dl_at 96 25 lb_X12_lend_3 rfl)
theorem dX12_lend_122 : decode cX12_lend 122 = .ok (.istore 8, 2) := dx_54 (dl_at 96 26 lb_X12_lend_3 rfl) (dl_at 96 27 lb_X12_lend_3 rfl)
theorem dX12_lend_124 : decode cX12_lend 124 = .ok (.iload 8, 2) := dx_21 (dl_at 96 28 lb_X12_lend_3 rfl) (dl_at 96 29 lb_X12_lend_3 rfl)
theorem dX12_lend_126 : decode cX12_lend 126 = .ok (.ifCond .eq 8, 3) := dx_153 (a := 0) (b := 8) (dl_at 96 30 lb_X12_lend_3 rfl) (dl_at 96 31 lb_X12_lend_3 rfl) (dl_at 128 0 lb_X12_lend_4 rfl) sg16_8
theorem dX12_lend_134 : decode cX12_lend 134 = .ok (.iload_n 3, 1) := dx_29 (dl_at 128 6 lb_X12_lend_4 rfl)
theorem dX12_lend_135 : decode cX12_lend 135 = .ok (.istore_n 3, 1) := dx_62 (dl_at 128 7 lb_X12_lend_4 rfl)
theorem dX12_lend_136 : decode cX12_lend 136 = .ok (.iload 8, 2) := dx_21 (dl_at 128 8 lb_X12_lend_4 rfl) (dl_at 128 9 lb_X12_lend_4 rfl)
theorem dX12_lend_138 : decode cX12_lend 138 = .ok (.ifCond .eq 10, 3) := dx_153 (a := 0) (b := 10) (dl_at 128 10 lb_X12_lend_4 rfl) (dl_at 128 11 lb_X12_lend_4 rfl) (dl_at 128 12 lb_X12_lend_4 rfl) sg16_10
theorem dX12_lend_148 : decode cX12_lend 148 = .ok (.iload 4, 2) := dx_21 (dl_at 128 20 lb_X12_lend_4 rfl) (dl_at 128 21 lb_X12_lend_4 rfl)
theorem dX12_lend_150 : decode cX12_lend 150 = .ok (.istore 4, 2) := dx_54 (dl_at 128 22 lb_X12_lend_4 rfl) (dl_at 128 23 lb_X12_lend_4 rfl)
theorem dX12_lend_152 : decode cX12_lend 152 = .ok (.iinc 5 1, 3) := dx_132 (dl_at 128 24 lb_X12_lend_4 rfl) (dl_at 128 25 lb_X12_lend_4 rfl) (dl_at 128 26 lb_X12_lend_4 rfl) sg8_1
theorem dX12_lend_155 : decode cX12_lend 155 = .ok (.goto (-133), 3) := dx_167 (a := 255) (b := 123) (dl_at 128 27 lb_X12_lend_4 rfl) (dl_at 128 28 lb_X12_lend_4 rfl) (dl_at 128 29 lb_X12_lend_4 rfl) sg16_65403
theorem dX12_lend_42 : decode cX12_lend 42 = .ok (.aload_n 0, 1) := dx_42 (dl_at 32 10 lb_X12_lend_1 rfl)
theorem dX12_lend_43 : decode cX12_lend 43 = .ok (.getfield 28, 3) := dx_180 (a := 0) (b := 28) (dl_at 32 11 lb_X12_lend_1 rfl) (dl_at 32 12 lb_X12_lend_1 rfl) (dl_at 32 13 lb_X12_lend_1 rfl) rfl
theorem dX12_lend_46 : decode cX12_lend 46 = .ok (.iload 5, 2) := dx_21 (dl_at 32 14 lb_X12_lend_1 rfl) (dl_at 32 15 lb_X12_lend_1 rfl)
theorem dX12_lend_48 : decode cX12_lend 48 = .ok (.iaload, 1) := dx_46 (dl_at 32 16 lb_X12_lend_1 rfl)
theorem dX12_lend_49 : decode cX12_lend 49 = .ok (.iconst 3, 1) := dx_6 (dl_at 32 17 lb_X12_lend_1 rfl)
theorem dX12_lend_50 : decode cX12_lend 50 = .ok (.if_icmp .ne 14, 3) := dx_160 (a := 0) (b := 14) (dl_at 32 18 lb_X12_lend_1 rfl) (dl_at 32 19 lb_X12_lend_1 rfl) (dl_at 32 20 lb_X12_lend_1 rfl) sg16_14
theorem dX12_lend_64 : decode cX12_lend 64 = .ok (.iconst 1, 1) := dx_4 (dl_at 64 0 lb_X12_lend_2 rfl)
theorem dX12_lend_65 : decode cX12_lend 65 = .ok (.goto 4, 3) := dx_167 (a := 0) (b := 4) (dl_at 64 1 lb_X12_lend_2 rfl) (dl_at 64 2 lb_X12_lend_2 rfl) (dl_at 64 3 lb_X12_lend_2 rfl) sg16_4
theorem dX12_lend_108 : decode cX12_lend 108 = .ok (.aload_n 0, 1) := dx_42 (dl_at 96 12 lb_X12_lend_3 rfl)
theorem dX12_lend_109 : decode cX12_lend 109 = .ok (.getfield 213, 3) := dx_180 (a := 0) (b := 213) (dl_at 96 13 lb_X12_lend_3 rfl) (dl_at 96 14 lb_X12_lend_3 rfl) (dl_at 96 15 lb_X12_lend_3 rfl) rfl
theorem dX12_lend_112 : decode cX12_lend 112 = .ok (.iload 4, 2) := dx_21 (dl_at 96 16 lb_X12_lend_3 rfl) (dl_at 96 17 lb_X12_lend_3 rfl)
theorem dX12_lend_114 : decode cX12_lend 114 = .ok (.if_icmp .ge 7, 3) := dx_162 (a := 0) (b := 7) (dl_at 96 18 lb_X12_lend_3 rfl) (dl_at 96 19 lb_X12_lend_3 rfl) (dl_at 96 20 lb_X12_lend_3 rfl) sg16_7
theorem dX12_lend_117 : decode cX12_lend 117 = .ok (.iconst 1, 1) := dx_4 (dl_at 96 21 lb_X12_lend_3 rfl)
theorem dX12_lend_118 : decode cX12_lend 118 = .ok (.goto 4, 3) := dx_167 (a := 0) (b := 4) (dl_at 96 22 lb_X12_lend_3 rfl) (dl_at 96 23 lb_X12_lend_3 rfl) (dl_at 96 24 lb_X12_lend_3 rfl) sg16_4
theorem dX12_lend_129 : decode cX12_lend 129 = .ok (.iload 5, 2) := dx_21 (dl_at 128 1 lb_X12_lend_4 rfl) (dl_at 128 2 lb_X12_lend_4 rfl)
theorem dX12_lend_131 : decode cX12_lend 131 = .ok (.goto 4, 3) := dx_167 (a := 0) (b := 4) (dl_at 128 3 lb_X12_lend_4 rfl) (dl_at 128 4 lb_X12_lend_4 rfl) (dl_at 128 5 lb_X12_lend_4 rfl) sg16_4
theorem dX12_lend_141 : decode cX12_lend 141 = .ok (.aload_n 0, 1) := dx_42 (dl_at 128 13 lb_X12_lend_4 rfl)
theorem dX12_lend_142 : decode cX12_lend 142 = .ok (.getfield 213, 3) := dx_180 (a := 0) (b := 213) (dl_at 128 14 lb_X12_lend_4 rfl) (dl_at 128 15 lb_X12_lend_4 rfl) (dl_at 128 16 lb_X12_lend_4 rfl) rfl
theorem dX12_lend_145 : decode cX12_lend 145 = .ok (.goto 5, 3) := dx_167 (a := 0) (b := 5) (dl_at 128 17 lb_X12_lend_4 rfl) (dl_at 128 18 lb_X12_lend_4 rfl) (dl_at 128 19 lb_X12_lend_4 rfl) sg16_5
theorem dX12_lend_53 : decode cX12_lend 53 = .ok (.iload 5, 2) := dx_21 (dl_at 32 21 lb_X12_lend_1 rfl) (dl_at 32 22 lb_X12_lend_1 rfl)
theorem dX12_lend_55 : decode cX12_lend 55 = .ok (.aload_n 0, 1) := dx_42 (dl_at 32 23 lb_X12_lend_1 rfl)
theorem dX12_lend_56 : decode cX12_lend 56 = .ok (.iload_n 1, 1) := dx_27 (dl_at 32 24 lb_X12_lend_1 rfl)
theorem dX12_lend_57 : decode cX12_lend 57 = .ok (.iconst 1, 1) := dx_4 (dl_at 32 25 lb_X12_lend_1 rfl)
theorem dX12_lend_58 : decode cX12_lend 58 = .ok (.invokevirtual 161, 3) := dx_182 (a := 0) (b := 161) (dl_at 32 26 lb_X12_lend_1 rfl) (dl_at 32 27 lb_X12_lend_1 rfl) (dl_at 32 28 lb_X12_lend_1 rfl) rfl
theorem dX12_lend_61 : decode cX12_lend 61 = .ok (.if_icmp .ne 7, 3) := dx_160 (a := 0) (b := 7) (dl_at 32 29 lb_X12_lend_1 rfl) (dl_at 32 30 lb_X12_lend_1 rfl) (dl_at 32 31 lb_X12_lend_1 rfl) sg16_7
theorem dX12_lend_10 : decode cX12_lend 10 = .ok (.iload_n 2, 1) := dx_28 (dl_at 0 10 lb_X12_lend_0 rfl)
theorem dX12_lend_11 : decode cX12_lend 11 = .ok (.ireturn, 1) := dx_172 (dl_at 0 11 lb_X12_lend_0 rfl)
