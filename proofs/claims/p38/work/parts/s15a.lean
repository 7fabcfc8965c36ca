theorem mw_2_129 : (Cond.fieldLink RX6 9 "DearLetters$Row" "places" "[I" : Cond) ∈ lw_good := lg_at 2 129 rfl rfl
theorem mw_2_209 : (Cond.code yJ7_fill_53178 cJ7_fill_53178 4 none : Cond) ∈ lw_good := lg_at 2 209 rfl rfl
theorem mw_2_207 : (Cond.methodLink RX6 19 yJ7_fill_53178 : Cond) ∈ lw_good := lg_at 2 207 rfl rfl
theorem mw_2_208 : (Cond.static yJ7_fill_53178 : Cond) ∈ lw_good := lg_at 2 208 rfl rfl
theorem mw_1_14 : (Cond.initialized RJ7 : Cond) ∈ lw_good := lg_at 1 14 rfl rfl
theorem mw_2_145 : (Cond.fieldLink RX9 9 "DearLetters$Text" "bytes" "[B" : Cond) ∈ lw_good := lg_at 2 145 rfl rfl
theorem mw_3_22 : (Cond.code yJ7_fill_031fb cJ7_fill_031fb 4 none : Cond) ∈ lw_good := lg_at 3 22 rfl rfl
theorem mw_3_20 : (Cond.methodLink RX9 19 yJ7_fill_031fb : Cond) ∈ lw_good := lg_at 3 20 rfl rfl
theorem mw_3_21 : (Cond.static yJ7_fill_031fb : Cond) ∈ lw_good := lg_at 3 21 rfl rfl
theorem mw_4_56 : (Cond.methodLink RX6 25 arraycopyName : Cond) ∈ lw_good := lg_at 4 56 rfl rfl
theorem mw_3_4 : (Cond.native arraycopyName : Cond) ∈ lw_good := lg_at 3 4 rfl rfl
theorem mw_3_3 : (Cond.static arraycopyName : Cond) ∈ lw_good := lg_at 3 3 rfl rfl
theorem mw_1_15 : (Cond.initialized "java/lang/System" : Cond) ∈ lw_good := lg_at 1 15 rfl rfl
theorem mw_5_29 : (Cond.constantLong RX6 31 31 : Cond) ∈ lw_good := lg_at 5 29 rfl rfl
theorem mw_5_34 : (Cond.constantLong RX9 25 31 : Cond) ∈ lw_good := lg_at 5 34 rfl rfl
theorem mw_2_206 : (Cond.code yX6_beZeros cX6_beZeros 2 none : Cond) ∈ lw_good := lg_at 2 206 rfl rfl
theorem mw_2_203 : (Cond.methodLink RX11 77 yX6_beZeros : Cond) ∈ lw_good := lg_at 2 203 rfl rfl
theorem mw_2_204 : (Cond.instanceMethod yX6_beZeros : Cond) ∈ lw_good := lg_at 2 204 rfl rfl
theorem mw_2_205 : (Cond.selects RX6 yX6_beZeros yX6_beZeros : Cond) ∈ lw_good := lg_at 2 205 rfl rfl
theorem mw_3_19 : (Cond.code yX9_beBlanks cX9_beBlanks 2 none : Cond) ∈ lw_good := lg_at 3 19 rfl rfl
theorem mw_3_16 : (Cond.methodLink RX11 115 yX9_beBlanks : Cond) ∈ lw_good := lg_at 3 16 rfl rfl
theorem mw_3_17 : (Cond.instanceMethod yX9_beBlanks : Cond) ∈ lw_good := lg_at 3 17 rfl rfl
theorem mw_3_18 : (Cond.selects RX9 yX9_beBlanks yX9_beBlanks : Cond) ∈ lw_good := lg_at 3 18 rfl rfl
theorem mw_3_1 : (Cond.code yX6_holds cX6_holds 3 (some .boolean) : Cond) ∈ lw_good := lg_at 3 1 rfl rfl
theorem mw_2_238 : (Cond.methodLink RX11 102 yX6_holds : Cond) ∈ lw_good := lg_at 2 238 rfl rfl
theorem mw_2_239 : (Cond.instanceMethod yX6_holds : Cond) ∈ lw_good := lg_at 2 239 rfl rfl
theorem mw_3_0 : (Cond.selects RX6 yX6_holds yX6_holds : Cond) ∈ lw_good := lg_at 3 0 rfl rfl
theorem mw_3_2 : (Cond.methodLink RX11 106 arraycopyName : Cond) ∈ lw_good := lg_at 3 2 rfl rfl
theorem tX_37_s {mu : Nat → Nat → Int32} (ok : okR loX hiX mu) {nu : Nat → Nat → Int32} {v : Int32} (f : Nat) (hn : va_up mu 37 (upd (mu 37) f v) = nu) : okR loX hiX nu := by
  subst hn
  exact okR_up ok 37 f v (tI_lo v) (tI_hi v)
theorem hX_text_1 (cs : Nat → ClassId) (ad : Nat → Nat) (g : Nat → Int32) (v : Int32) (k : Nat) (h1 : 14 ≤ k) (h2 : k < 18) : EX cs ad k (upd g 1 v) = .inr (9, [.ref (ad (k + 13)), .int v]) := by
  rw [EX_text cs ad _ _ h1 h2]; rfl
theorem tX_text_1 {mu : Nat → Nat → Int32} (ok : okR loX hiX mu) {nu : Nat → Nat → Int32} {v : Int32} (k : Nat) (h1 : 14 ≤ k) (h2 : k < 18) (hn : va_up mu k (upd (mu k) 1 v) = nu) (hv : -1 ≤ v.toInt ∧ v.toInt ≤ 80) : okR loX hiX nu := by
  subst hn
  exact okR_up ok k 1 v (by unfold loX; rw [clX_text k h1 h2]; exact hv.1) (by unfold hiX; rw [clX_text k h1 h2]; exact hv.2)
theorem cX_57_places (j : Nat) (h3 : 21 ≤ j) (h4 : j < 27) {a b : Nat} : ∀ f, loX j f ≤ loX 57 (a + (f - b)) ∧ hiX 57 (a + (f - b)) ≤ hiX j f := fun f => by
  unfold loX hiX; rw [clX_places j h3 h4]
  exact (show (-2147483648 : Int) ≤ -2147483648 ∧ (2147483647 : Int) ≤ 2147483647 by decide)
theorem cX_58_places (j : Nat) (h3 : 21 ≤ j) (h4 : j < 27) {a b : Nat} : ∀ f, loX j f ≤ loX 58 (a + (f - b)) ∧ hiX 58 (a + (f - b)) ≤ hiX j f := fun f => by
  unfold loX hiX; rw [clX_places j h3 h4]
  exact (show (-2147483648 : Int) ≤ -2147483648 ∧ (2147483647 : Int) ≤ 2147483647 by decide)
theorem cX_60_places (j : Nat) (h3 : 21 ≤ j) (h4 : j < 27) {a b : Nat} : ∀ f, loX j f ≤ loX 60 (a + (f - b)) ∧ hiX 60 (a + (f - b)) ≤ hiX j f := fun f => by
  unfold loX hiX; rw [clX_places j h3 h4]
  exact (show (-2147483648 : Int) ≤ -2147483648 ∧ (2147483647 : Int) ≤ 2147483647 by decide)
theorem cX_places_places (k : Nat) (h1 : 21 ≤ k) (h2 : k < 27) (j : Nat) (h3 : 21 ≤ j) (h4 : j < 27) {a b : Nat} : ∀ f, loX j f ≤ loX k (a + (f - b)) ∧ hiX k (a + (f - b)) ≤ hiX j f := fun f => by
  unfold loX hiX; rw [clX_places k h1 h2]; rw [clX_places j h3 h4]
  exact (show (-2147483648 : Int) ≤ -2147483648 ∧ (2147483647 : Int) ≤ 2147483647 by decide)
theorem lb_J7_fill_53178_0 : dl_ck (cJ7_fill_53178.data.toList.drop 0) [3, 61, 42, 190, 62, 28, 29, 162, 0, 13, 42, 28, 27, 79, 132, 2, 1, 167, 255, 244, 177] = true := by decide +kernel
theorem dJ7_fill_53178_0 : decode cJ7_fill_53178 0 = .ok (.iconst 0, 1) := dx_3 (dl_at 0 0 lb_J7_fill_53178_0 rfl)
theorem dJ7_fill_53178_1 : decode cJ7_fill_53178 1 = .ok (.istore_n 2, 1) := dx_61 (dl_at 0 1 lb_J7_fill_53178_0 rfl)
theorem dJ7_fill_53178_2 : decode cJ7_fill_53178 2 = .ok (.aload_n 0, 1) := dx_42 (dl_at 0 2 lb_J7_fill_53178_0 rfl)
theorem dJ7_fill_53178_3 : decode cJ7_fill_53178 3 = .ok (.arraylength, 1) := dx_190 (dl_at 0 3 lb_J7_fill_53178_0 rfl)
theorem dJ7_fill_53178_4 : decode cJ7_fill_53178 4 = .ok (.istore_n 3, 1) := dx_62 (dl_at 0 4 lb_J7_fill_53178_0 rfl)
theorem dJ7_fill_53178_5 : decode cJ7_fill_53178 5 = .ok (.iload_n 2, 1) := dx_28 (dl_at 0 5 lb_J7_fill_53178_0 rfl)
theorem dJ7_fill_53178_6 : decode cJ7_fill_53178 6 = .ok (.iload_n 3, 1) := dx_29 (dl_at 0 6 lb_J7_fill_53178_0 rfl)
theorem dJ7_fill_53178_7 : decode cJ7_fill_53178 7 = .ok (.if_icmp .ge 13, 3) := dx_162 (a := 0) (b := 13) (dl_at 0 7 lb_J7_fill_53178_0 rfl) (dl_at 0 8 lb_J7_fill_53178_0 rfl) (dl_at 0 9 lb_J7_fill_53178_0 rfl) sg16_13
theorem dJ7_fill_53178_20 : decode cJ7_fill_53178 20 = .ok (.return_, 1) := dx_177 (dl_at 0 20 lb_J7_fill_53178_0 rfl)
theorem dJ7_fill_53178_10 : decode cJ7_fill_53178 10 = .ok (.aload_n 0, 1) := dx_42 (dl_at 0 10 lb_J7_fill_53178_0 rfl)
theorem dJ7_fill_53178_11 : decode cJ7_fill_53178 11 = .ok (.iload_n 2, 1) := dx_28 (dl_at 0 11 lb_J7_fill_53178_0 rfl)
theorem dJ7_fill_53178_12 : decode cJ7_fill_53178 12 = .ok (.iload_n 1, 1) := dx_27 (dl_at 0 12 lb_J7_fill_53178_0 rfl)
theorem dJ7_fill_53178_13 : decode cJ7_fill_53178 13 = .ok (.iastore, 1) := dx_79 (dl_at 0 13 lb_J7_fill_53178_0 rfl)
theorem dJ7_fill_53178_14 : decode cJ7_fill_53178 14 = .ok (.iinc 2 1, 3) := dx_132 (dl_at 0 14 lb_J7_fill_53178_0 rfl) (dl_at 0 15 lb_J7_fill_53178_0 rfl) (dl_at 0 16 lb_J7_fill_53178_0 rfl) sg8_1
theorem dJ7_fill_53178_17 : decode cJ7_fill_53178 17 = .ok (.goto (-12), 3) := dx_167 (a := 255) (b := 244) (dl_at 0 17 lb_J7_fill_53178_0 rfl) (dl_at 0 18 lb_J7_fill_53178_0 rfl) (dl_at 0 19 lb_J7_fill_53178_0 rfl) sg16_65524
theorem lb_J7_fill_031fb_0 : dl_ck (cJ7_fill_031fb.data.toList.drop 0) [3, 61, 42, 190, 62, 28, 29, 162, 0, 13, 42, 28, 27, 84, 132, 2, 1, 167, 255, 244, 177] = true := by decide +kernel
theorem dJ7_fill_031fb_0 : decode cJ7_fill_031fb 0 = .ok (.iconst 0, 1) := dx_3 (dl_at 0 0 lb_J7_fill_031fb_0 rfl)
theorem dJ7_fill_031fb_1 : decode cJ7_fill_031fb 1 = .ok (.istore_n 2, 1) := dx_61 (dl_at 0 1 lb_J7_fill_031fb_0 rfl)
theorem dJ7_fill_031fb_2 : decode cJ7_fill_031fb 2 = .ok (.aload_n 0, 1) := dx_42 (dl_at 0 2 lb_J7_fill_031fb_0 rfl)
theorem dJ7_fill_031fb_3 : decode cJ7_fill_031fb 3 = .ok (.arraylength, 1) := dx_190 (dl_at 0 3 lb_J7_fill_031fb_0 rfl)
theorem dJ7_fill_031fb_4 : decode cJ7_fill_031fb 4 = .ok (.istore_n 3, 1) := dx_62 (dl_at 0 4 lb_J7_fill_031fb_0 rfl)
theorem dJ7_fill_031fb_5 : decode cJ7_fill_031fb 5 = .ok (.iload_n 2, 1) := dx_28 (dl_at 0 5 lb_J7_fill_031fb_0 rfl)
theorem dJ7_fill_031fb_6 : decode cJ7_fill_031fb 6 = .ok (.iload_n 3, 1) := dx_29 (dl_at 0 6 lb_J7_fill_031fb_0 rfl)
theorem dJ7_fill_031fb_7 : decode cJ7_fill_031fb 7 = .ok (.if_icmp .ge 13, 3) := dx_162 (a := 0) (b := 13) (dl_at 0 7 lb_J7_fill_031fb_0 rfl) (dl_at 0 8 lb_J7_fill_031fb_0 rfl) (dl_at 0 9 lb_J7_fill_031fb_0 rfl) sg16_13
theorem dJ7_fill_031fb_20 : decode cJ7_fill_031fb 20 = .ok (.return_, 1) := dx_177 (dl_at 0 20 lb_J7_fill_031fb_0 rfl)
theorem dJ7_fill_031fb_10 : decode cJ7_fill_031fb 10 = .ok (.aload_n 0, 1) := dx_42 (dl_at 0 10 lb_J7_fill_031fb_0 rfl)
theorem dJ7_fill_031fb_11 : decode cJ7_fill_031fb 11 = .ok (.iload_n 2, 1) := dx_28 (dl_at 0 11 lb_J7_fill_031fb_0 rfl)
theorem dJ7_fill_031fb_12 : decode cJ7_fill_031fb 12 = .ok (.iload_n 1, 1) := dx_27 (dl_at 0 12 lb_J7_fill_031fb_0 rfl)
theorem dJ7_fill_031fb_13 : decode cJ7_fill_031fb 13 = .ok (.bastore, 1) := dx_84 (dl_at 0 13 lb_J7_fill_031fb_0 rfl)
theorem dJ7_fill_031fb_14 : decode cJ7_fill_031fb 14 = .ok (.iinc 2 1, 3) := dx_132 (dl_at 0 14 lb_J7_fill_031fb_0 rfl) (dl_at 0 15 lb_J7_fill_031fb_0 rfl) (dl_at 0 16 lb_J7_fill_031fb_0 rfl) sg8_1
theorem dJ7_fill_031fb_17 : decode cJ7_fill_031fb 17 = .ok (.goto (-12), 3) := dx_167 (a := 255) (b := 244) (dl_at 0 17 lb_J7_fill_031fb_0 rfl) (dl_at 0 18 lb_J7_fill_031fb_0 rfl) (dl_at 0 19 lb_J7_fill_031fb_0 rfl) sg16_65524
theorem lb_X6_beZeros_0 : dl_ck (cX6_beZeros.data.toList.drop 0) [42, 180, 0, 9, 3, 184, 0, 19, 42, 27, 181, 0, 15, 177] = true := by decide +kernel
theorem dX6_beZeros_0 : decode cX6_beZeros 0 = .ok (.aload_n 0, 1) := dx_42 (dl_at 0 0 lb_X6_beZeros_0 rfl)
theorem dX6_beZeros_1 : decode cX6_beZeros 1 = .ok (.getfield 9, 3) := dx_180 (a := 0) (b := 9) (dl_at 0 1 lb_X6_beZeros_0 rfl) (dl_at 0 2 lb_X6_beZeros_0 rfl) (dl_at 0 3 lb_X6_beZeros_0 rfl) rfl
theorem dX6_beZeros_4 : decode cX6_beZeros 4 = .ok (.iconst 0, 1) := dx_3 (dl_at 0 4 lb_X6_beZeros_0 rfl)
theorem dX6_beZeros_5 : decode cX6_beZeros 5 = .ok (.invokestatic 19, 3) := dx_184 (a := 0) (b := 19) (dl_at 0 5 lb_X6_beZeros_0 rfl) (dl_at 0 6 lb_X6_beZeros_0 rfl) (dl_at 0 7 lb_X6_beZeros_0 rfl) rfl
theorem dX6_beZeros_8 : decode cX6_beZeros 8 = .ok (.aload_n 0, 1) := dx_42 (dl_at 0 8 lb_X6_beZeros_0 rfl)
theorem dX6_beZeros_9 : decode cX6_beZeros 9 = .ok (.iload_n 1, 1) := dx_27 (dl_at 0 9 lb_X6_beZeros_0 rfl)
theorem dX6_beZeros_10 : decode cX6_beZeros 10 = .ok (.putfield 15, 3) := dx_181 (a := 0) (b := 15) (dl_at 0 10 lb_X6_beZeros_0 rfl) (dl_at 0 11 lb_X6_beZeros_0 rfl) (dl_at 0 12 lb_X6_beZeros_0 rfl) rfl
theorem dX6_beZeros_13 : decode cX6_beZeros 13 = .ok (.return_, 1) := dx_177 (dl_at 0 13 lb_X6_beZeros_0 rfl)
theorem lb_X9_beBlanks_0 : dl_ck (cX9_beBlanks.data.toList.drop 0) [42, 180, 0, 9, 16, 32, 184, 0, 19, 42, 27, 181, 0, 15, 177] = true := by decide +kernel
theorem dX9_beBlanks_0 : decode cX9_beBlanks 0 = .ok (.aload_n 0, 1) := dx_42 (dl_at 0 0 lb_X9_beBlanks_0 rfl)
theorem dX9_beBlanks_1 : decode cX9_beBlanks 1 = .ok (.getfield 9, 3) := dx_180 (a := 0) (b := 9) (dl_at 0 1 lb_X9_beBlanks_0 rfl) (dl_at 0 2 lb_X9_beBlanks_0 rfl) (dl_at 0 3 lb_X9_beBlanks_0 rfl) rfl
theorem dX9_beBlanks_4 : decode cX9_beBlanks 4 = .ok (.bipush 32, 2) := dx_16 (dl_at 0 4 lb_X9_beBlanks_0 rfl) (dl_at 0 5 lb_X9_beBlanks_0 rfl) sg8_32
theorem dX9_beBlanks_6 : decode cX9_beBlanks 6 = .ok (.invokestatic 19, 3) := dx_184 (a := 0) (b := 19) (dl_at 0 6 lb_X9_beBlanks_0 rfl) (dl_at 0 7 lb_X9_beBlanks_0 rfl) (dl_at 0 8 lb_X9_beBlanks_0 rfl) rfl
theorem dX9_beBlanks_9 : decode cX9_beBlanks 9 = .ok (.aload_n 0, 1) := dx_42 (dl_at 0 9 lb_X9_beBlanks_0 rfl)
theorem dX9_beBlanks_10 : decode cX9_beBlanks 10 = .ok (.iload_n 1, 1) := dx_27 (dl_at 0 10 lb_X9_beBlanks_0 rfl)
theorem dX9_beBlanks_11 : decode cX9_beBlanks 11 = .ok (.putfield 15, 3) := dx_181 (a := 0) (b := 15) (dl_at 0 11 lb_X9_beBlanks_0 rfl) (dl_at 0 12 lb_X9_beBlanks_0 rfl) (dl_at 0 13 lb_X9_beBlanks_0 rfl) rfl
theorem dX9_beBlanks_14 : decode cX9_beBlanks 14 = .ok (.return_, 1) := dx_177 (dl_at 0 14 lb_X9_beBlanks_0 rfl)
theorem lb_X6_beLike_0 : dl_ck (cX6_beLike.data.toList.drop 0) [43, 3, 42, 180, 0, 9, 3, 28, 184, 0, 25, 42, 28, 181, 0, 15, 177] = true := by decide +kernel
theorem dX6_beLike_0 : decode cX6_beLike 0 = .ok (.aload_n 1, 1) := dx_43 (dl_at 0 0 lb_X6_beLike_0 rfl)
theorem dX6_beLike_1 : decode cX6_beLike 1 = .ok (.iconst 0, 1) := dx_3 (dl_at 0 1 lb_X6_beLike_0 rfl)
theorem dX6_beLike_2 : decode cX6_beLike 2 = .ok (.aload_n 0, 1) := dx_42 (dl_at 0 2 lb_X6_beLike_0 rfl)
theorem dX6_beLike_3 : decode cX6_beLike 3 = .ok (.getfield 9, 3) := dx_180 (a := 0) (b := 9) (dl_at 0 3 lb_X6_beLike_0 rfl) (dl_at 0 4 lb_X6_beLike_0 rfl) (dl_at 0 5 lb_X6_beLike_0 rfl) rfl
theorem dX6_beLike_6 : decode cX6_beLike 6 = .ok (.iconst 0, 1) := dx_3 (dl_at 0 6 lb_X6_beLike_0 rfl)
theorem dX6_beLike_7 : decode cX6_beLike 7 = .ok (.iload_n 2, 1) := dx_28 (dl_at 0 7 lb_X6_beLike_0 rfl)
theorem dX6_beLike_8 : decode cX6_beLike 8 = .ok (.invokestatic 25, 3) := dx_184 (a := 0) (b := 25) (dl_at 0 8 lb_X6_beLike_0 rfl) (dl_at 0 9 lb_X6_beLike_0 rfl) (dl_at 0 10 lb_X6_beLike_0 rfl) rfl
theorem dX6_beLike_11 : decode cX6_beLike 11 = .ok (.aload_n 0, 1) := dx_42 (dl_at 0 11 lb_X6_beLike_0 rfl)
theorem dX6_beLike_12 : decode cX6_beLike 12 = .ok (.iload_n 2, 1) := dx_28 (dl_at 0 12 lb_X6_beLike_0 rfl)
theorem dX6_beLike_13 : decode cX6_beLike 13 = .ok (.putfield 15, 3) := dx_181 (a := 0) (b := 15) (dl_at 0 13 lb_X6_beLike_0 rfl) (dl_at 0 14 lb_X6_beLike_0 rfl) (dl_at 0 15 lb_X6_beLike_0 rfl) rfl
theorem dX6_beLike_16 : decode cX6_beLike 16 = .ok (.return_, 1) := dx_177 (dl_at 0 16 lb_X6_beLike_0 rfl)
theorem lb_X6_holds_0 : dl_ck (cX6_holds.data.toList.drop 0) [27, 155, 0, 25, 27, 42, 180, 0, 15, 163, 0, 17, 28, 42, 180, 0, 15, 27, 100, 163, 0, 7, 4, 167, 0, 4, 3, 172] = true := by decide +kernel
theorem dX6_holds_0 : decode cX6_holds 0 = .ok (.iload_n 1, 1) := dx_27 (dl_at 0 0 lb_X6_holds_0 rfl)
theorem dX6_holds_1 : decode cX6_holds 1 = .ok (.ifCond .lt 25, 3) := dx_155 (a := 0) (b := 25) (dl_at 0 1 lb_X6_holds_0 rfl) (dl_at 0 2 lb_X6_holds_0 rfl) (dl_at 0 3 lb_X6_holds_0 rfl) sg16_25
theorem dX6_holds_26 : decode cX6_holds 26 = .ok (.iconst 0, 1) := dx_3 (dl_at 0 26 lb_X6_holds_0 rfl)
theorem dX6_holds_27 : decode cX6_holds 27 = .ok (.ireturn, 1) := dx_172 (dl_at 0 27 lb_X6_holds_0 rfl)
theorem dX6_holds_4 : decode cX6_holds 4 = .ok (.iload_n 1, 1) := dx_27 (dl_at 0 4 lb_X6_holds_0 rfl)
theorem dX6_holds_5 : decode cX6_holds 5 = .ok (.aload_n 0, 1) := dx_42 (dl_at 0 5 lb_X6_holds_0 rfl)
theorem dX6_holds_6 : decode cX6_holds 6 = .ok (.getfield 15, 3) := dx_180 (a := 0) (b := 15) (dl_at 0 6 lb_X6_holds_0 rfl) (dl_at 0 7 lb_X6_holds_0 rfl) (dl_at 0 8 lb_X6_holds_0 rfl) rfl
theorem dX6_holds_9 : decode cX6_holds 9 = .ok (.if_icmp .gt 17, 3) := dx_163 (a := 0) (b := 17) (dl_at 0 9 lb_X6_holds_0 rfl) (dl_at 0 10 lb_X6_holds_0 rfl) (dl_at 0 11 lb_X6_holds_0 rfl) sg16_17
theorem dX6_holds_12 : decode cX6_holds 12 = .ok (.iload_n 2, 1) := dx_28 (dl_at 0 12 lb_X6_holds_0 rfl)
theorem dX6_holds_13 : decode cX6_holds 13 = .ok (.aload_n 0, 1) := dx_42 (dl_at 0 13 lb_X6_holds_0 rfl)
theorem dX6_holds_14 : decode cX6_holds 14 = .ok (.getfield 15, 3) := dx_180 (a := 0) (b := 15) (dl_at 0 14 lb_X6_holds_0 rfl) (dl_at 0 15 lb_X6_holds_0 rfl) (dl_at 0 16 lb_X6_holds_0 rfl) rfl
theorem dX6_holds_17 : decode cX6_holds 17 = .ok (.iload_n 1, 1) := dx_27 (dl_at 0 17 lb_X6_holds_0 rfl)
theorem dX6_holds_18 : decode cX6_holds 18 = .ok (.isub, 1) := dx_100 (dl_at 0 18 lb_X6_holds_0 rfl)
theorem dX6_holds_19 : decode cX6_holds 19 = .ok (.if_icmp .gt 7, 3) := dx_163 (a := 0) (b := 7) (dl_at 0 19 lb_X6_holds_0 rfl) (dl_at 0 20 lb_X6_holds_0 rfl) (dl_at 0 21 lb_X6_holds_0 rfl) sg16_7
theorem dX6_holds_22 : decode cX6_holds 22 = .ok (.iconst 1, 1) := dx_4 (dl_at 0 22 lb_X6_holds_0 rfl)
theorem dX6_holds_23 : decode cX6_holds 23 = .ok (.goto 4, 3) := dx_167 (a := 0) (b := 4) (dl_at 0 23 lb_X6_holds_0 rfl) (dl_at 0 24 lb_X6_holds_0 rfl) (dl_at 0 25 lb_X6_holds_0 rfl) sg16_4
theorem lb_X6_digestOn_0 : dl_ck (cX6_digestOn.data.toList.drop 0) [20, 0, 31, 31, 105, 42, 180, 0, 15, 133, 97, 66, 3, 54, 5, 21, 5, 42, 180, 0, 15, 162, 0, 24, 20, 0, 31, 33, 105, 42, 180, 0] = true := by decide +kernel
theorem lb_X6_digestOn_1 : dl_ck (cX6_digestOn.data.toList.drop 32) [9, 21, 5, 46, 133, 97, 66, 132, 5, 1, 167, 255, 229, 33, 173] = true := by decide +kernel
theorem dX6_digestOn_0 : decode cX6_digestOn 0 = .ok (.ldc2_w 31, 3) := dx_20 (a := 0) (b := 31) (dl_at 0 0 lb_X6_digestOn_0 rfl) (dl_at 0 1 lb_X6_digestOn_0 rfl) (dl_at 0 2 lb_X6_digestOn_0 rfl) rfl
theorem dX6_digestOn_3 : decode cX6_digestOn 3 = .ok (.lload_n 1, 1) := dx_31 (dl_at 0 3 lb_X6_digestOn_0 rfl)
theorem dX6_digestOn_4 : decode cX6_digestOn 4 = .ok (.lmul, 1) := dx_105 (dl_at 0 4 lb_X6_digestOn_0 rfl)
theorem dX6_digestOn_5 : decode cX6_digestOn 5 = .ok (.aload_n 0, 1) := dx_42 (dl_at 0 5 lb_X6_digestOn_0 rfl)
theorem dX6_digestOn_6 : decode cX6_digestOn 6 = .ok (.getfield 15, 3) := dx_180 (a := 0) (b := 15) (dl_at 0 6 lb_X6_digestOn_0 rfl) (dl_at 0 7 lb_X6_digestOn_0 rfl) (dl_at 0 8 lb_X6_digestOn_0 rfl) rfl
theorem dX6_digestOn_9 : decode cX6_digestOn 9 = .ok (.i2l, 1) := dx_133 (dl_at 0 9 lb_X6_digestOn_0 rfl)
theorem dX6_digestOn_10 : decode cX6_digestOn 10 = .ok (.ladd, 1) := dx_97 (dl_at 0 10 lb_X6_digestOn_0 rfl)
theorem dX6_digestOn_11 : decode cX6_digestOn 11 = .ok (.lstore_n 3, 1) := dx_66 (dl_at 0 11 lb_X6_digestOn_0 rfl)
theorem dX6_digestOn_12 : decode cX6_digestOn 12 = .ok (.iconst 0, 1) := dx_3 (dl_at 0 12 lb_X6_digestOn_0 rfl)
theorem dX6_digestOn_13 : decode cX6_digestOn 13 = .ok (.istore 5, 2) := dx_54 (dl_at 0 13 lb_X6_digestOn_0 rfl) (dl_at 0 14 lb_X6_digestOn_0 rfl)
theorem dX6_digestOn_15 : decode cX6_digestOn 15 = .ok (.iload 5, 2) := dx_21 (dl_at 0 15 lb_X6_digestOn_0 rfl) (dl_at 0 16 lb_X6_digestOn_0 rfl)
theorem dX6_digestOn_17 : decode cX6_digestOn 17 = .ok (.aload_n 0, 1) := dx_42 (dl_at 0 17 lb_X6_digestOn_0 rfl)
theorem dX6_digestOn_18 : decode cX6_digestOn 18 = .ok (.getfield 15, 3) := dx_180 (a := 0) (b := 15) (dl_at 0 18 lb_X6_digestOn_0 rfl) (dl_at 0 19 lb_X6_digestOn_0 rfl) (dl_at 0 20 lb_X6_digestOn_0 rfl) rfl
theorem dX6_digestOn_21 : decode cX6_digestOn 21 = .ok (.if_icmp .ge 24, 3) := dx_162 (a := 0) (b := 24) (dl_at 0 21 lb_X6_digestOn_0 rfl) (dl_at 0 22 lb_X6_digestOn_0 rfl) (dl_at 0 23 lb_X6_digestOn_0 rfl) sg16_24
theorem dX6_digestOn_45 : decode cX6_digestOn 45 = .ok (.lload_n 3, 1) := dx_33 (dl_at 32 13 lb_X6_digestOn_1 rfl)
theorem dX6_digestOn_46 : decode cX6_digestOn 46 = .ok (.lreturn, 1) := dx_173 (dl_at 32 14 lb_X6_digestOn_1 rfl)
theorem dX6_digestOn_24 : decode cX6_digestOn 24 = .ok (.ldc2_w 31, 3) := dx_20 (a := 0) (b := 31) (dl_at 0 24 lb_X6_digestOn_0 rfl) (dl_at 0 25 lb_X6_digestOn_0 rfl) (dl_at 0 26 lb_X6_digestOn_0 rfl) rfl
theorem dX6_digestOn_27 : decode cX6_digestOn 27 = .ok (.lload_n 3, 1) := dx_33 (dl_at 0 27 lb_X6_digestOn_0 rfl)
theorem dX6_digestOn_28 : decode cX6_digestOn 28 = .ok (.lmul, 1) := dx_105 (dl_at 0 28 lb_X6_digestOn_0 rfl)
theorem dX6_digestOn_29 : decode cX6_digestOn 29 = .ok (.aload_n 0, 1) := dx_42 (dl_at 0 29 lb_X6_digestOn_0 rfl)
theorem dX6_digestOn_30 : decode cX6_digestOn 30 = .ok (.getfield 9, 3) := dx_180 (a := 0) (b := 9) (dl_at 0 30 lb_X6_digestOn_0 rfl) (dl_at 0 31 lb_X6_digestOn_0 rfl) (dl_at 32 0 lb_X6_digestOn_1 rfl) rfl
theorem dX6_digestOn_33 : decode cX6_digestOn 33 = .ok (.iload 5, 2) := dx_21 (dl_at 32 1 lb_X6_digestOn_1 rfl) (dl_at 32 2 lb_X6_digestOn_1 rfl)
theorem dX6_digestOn_35 : decode cX6_digestOn 35 = .ok (.iaload, 1) := dx_46 (dl_at 32 3 lb_X6_digestOn_1 rfl)
theorem dX6_digestOn_36 : decode cX6_digestOn 36 = .ok (.i2l, 1) := dx_133 (dl_at 32 4 lb_X6_digestOn_1 rfl)
theorem dX6_digestOn_37 : decode cX6_digestOn 37 = .ok (.ladd, 1) := dx_97 (dl_at 32 5 lb_X6_digestOn_1 rfl)
theorem dX6_digestOn_38 : decode cX6_digestOn 38 = .ok (.lstore_n 3, 1) := dx_66 (dl_at 32 6 lb_X6_digestOn_1 rfl)
theorem dX6_digestOn_39 : decode cX6_digestOn 39 = .ok (.iinc 5 1, 3) := dx_132 (dl_at 32 7 lb_X6_digestOn_1 rfl) (dl_at 32 8 lb_X6_digestOn_1 rfl) (dl_at 32 9 lb_X6_digestOn_1 rfl) sg8_1
theorem dX6_digestOn_42 : decode cX6_digestOn 42 = .ok (.goto (-27), 3) := dx_167 (a := 255) (b := 229) (dl_at 32 10 lb_X6_digestOn_1 rfl) (dl_at 32 11 lb_X6_digestOn_1 rfl) (dl_at 32 12 lb_X6_digestOn_1 rfl) sg16_65509
theorem lb_X9_digestOn_0 : dl_ck (cX9_digestOn.data.toList.drop 0) [20, 0, 25, 31, 105, 42, 180, 0, 15, 133, 97, 66, 3, 54, 5, 21, 5, 42, 180, 0, 15, 162, 0, 24, 20, 0, 25, 33, 105, 42, 180, 0] = true := by decide +kernel
theorem lb_X9_digestOn_1 : dl_ck (cX9_digestOn.data.toList.drop 32) [9, 21, 5, 51, 133, 97, 66, 132, 5, 1, 167, 255, 229, 33, 173] = true := by decide +kernel
theorem dX9_digestOn_0 : decode cX9_digestOn 0 = .ok (.ldc2_w 25, 3) := dx_20 (a := 0) (b := 25) (dl_at 0 0 lb_X9_digestOn_0 rfl) (dl_at 0 1 lb_X9_digestOn_0 rfl) (dl_at 0 2 lb_X9_digestOn_0 rfl) rfl
theorem dX9_digestOn_3 : decode cX9_digestOn 3 = .ok (.lload_n 1, 1) := dx_31 (dl_at 0 3 lb_X9_digestOn_0 rfl)
theorem dX9_digestOn_4 : decode cX9_digestOn 4 = .ok (.lmul, 1) := dx_105 (dl_at 0 4 lb_X9_digestOn_0 rfl)
theorem dX9_digestOn_5 : decode cX9_digestOn 5 = .ok (.aload_n 0, 1) := dx_42 (dl_at 0 5 lb_X9_digestOn_0 rfl)
theorem dX9_digestOn_6 : decode cX9_digestOn 6 = .ok (.getfield 15, 3) := dx_180 (a := 0) (b := 15) (dl_at 0 6 lb_X9_digestOn_0 rfl) (dl_at 0 7 lb_X9_digestOn_0 rfl) (dl_at 0 8 lb_X9_digestOn_0 rfl) rfl
theorem dX9_digestOn_9 : decode cX9_digestOn 9 = .ok (.i2l, 1) := dx_133 (dl_at 0 9 lb_X9_digestOn_0 rfl)
theorem dX9_digestOn_10 : decode cX9_digestOn 10 = .ok (.ladd, 1) := dx_97 (dl_at 0 10 lb_X9_digestOn_0 rfl)
theorem dX9_digestOn_11 : decode cX9_digestOn 11 = .ok (.lstore_n 3, 1) := dx_66 (dl_at 0 11 lb_X9_digestOn_0 rfl)
theorem dX9_digestOn_12 : decode cX9_digestOn 12 = .ok (.iconst 0, 1) := dx_3 (dl_at 0 12 lb_X9_digestOn_0 rfl)
theorem dX9_digestOn_13 : decode cX9_digestOn 13 = .ok (.istore 5, 2) := dx_54 (dl_at 0 13 lb_X9_digestOn_0 rfl) (dl_at 0 14 lb_X9_digestOn_0 rfl)
theorem dX9_digestOn_15 : decode cX9_digestOn 15 = .ok (.iload 5, 2) := dx_21 (dl_at 0 15 lb_X9_digestOn_0 rfl) (dl_at 0 16 lb_X9_digestOn_0 rfl)
theorem dX9_digestOn_17 : decode cX9_digestOn 17 = .ok (.aload_n 0, 1) := dx_42 (dl_at 0 17 lb_X9_digestOn_0 rfl)
theorem dX9_digestOn_18 : decode cX9_digestOn 18 = .ok (.getfield 15, 3) := dx_180 (a := 0) (b := 15) (dl_at 0 18 lb_X9_digestOn_0 rfl) (dl_at 0 19 lb_X9_digestOn_0 rfl) (dl_at 0 20 lb_X9_digestOn_0 rfl) rfl
theorem dX9_digestOn_21 : decode cX9_digestOn 21 = .ok (.if_icmp .ge 24, 3) := dx_162 (a := 0) (b := 24) (dl_at 0 21 lb_X9_digestOn_0 rfl) (dl_at 0 22 lb_X9_digestOn_0 rfl) (dl_at 0 23 lb_X9_digestOn_0 rfl) sg16_24
theorem dX9_digestOn_45 : decode cX9_digestOn 45 = .ok (.lload_n 3, 1) := dx_33 (dl_at 32 13 lb_X9_digestOn_1 rfl)
theorem dX9_digestOn_46 : decode cX9_digestOn 46 = .ok (.lreturn, 1) := dx_173 (dl_at 32 14 lb_X9_digestOn_1 rfl)
theorem dX9_digestOn_24 : decode cX9_digestOn 24 = .ok (.ldc2_w 25, 3) := dx_20 (a := 0) (b := 25) (dl_at 0 24 lb_X9_digestOn_0 rfl) (dl_at 0 25 lb_X9_digestOn_0 rfl) (dl_at 0 26 lb_X9_digestOn_0 rfl) rfl
theorem dX9_digestOn_27 : decode cX9_digestOn 27 = .ok (.lload_n 3, 1) := dx_33 (dl_at 0 27 lb_X9_digestOn_0 rfl)
theorem dX9_digestOn_28 : decode cX9_digestOn 28 = .ok (.lmul, 1) := dx_105 (dl_at 0 28 lb_X9_digestOn_0 rfl)
theorem dX9_digestOn_29 : decode cX9_digestOn 29 = .ok (.aload_n 0, 1) := dx_42 (dl_at 0 29 lb_X9_digestOn_0 rfl)
theorem dX9_digestOn_30 : decode cX9_digestOn 30 = .ok (.getfield 9, 3) := dx_180 (a := 0) (b := 9) (dl_at 0 30 lb_X9_digestOn_0 rfl) (dl_at 0 31 lb_X9_digestOn_0 rfl) (dl_at 32 0 lb_X9_digestOn_1 rfl) rfl
theorem dX9_digestOn_33 : decode cX9_digestOn 33 = .ok (.iload 5, 2) := dx_21 (dl_at 32 1 lb_X9_digestOn_1 rfl) (dl_at 32 2 lb_X9_digestOn_1 rfl)
theorem dX9_digestOn_35 : decode cX9_digestOn 35 = .ok (.baload, 1) := dx_51 (dl_at 32 3 lb_X9_digestOn_1 rfl)
theorem dX9_digestOn_36 : decode cX9_digestOn 36 = .ok (.i2l, 1) := dx_133 (dl_at 32 4 lb_X9_digestOn_1 rfl)
theorem dX9_digestOn_37 : decode cX9_digestOn 37 = .ok (.ladd, 1) := dx_97 (dl_at 32 5 lb_X9_digestOn_1 rfl)
theorem dX9_digestOn_38 : decode cX9_digestOn 38 = .ok (.lstore_n 3, 1) := dx_66 (dl_at 32 6 lb_X9_digestOn_1 rfl)
theorem dX9_digestOn_39 : decode cX9_digestOn 39 = .ok (.iinc 5 1, 3) := dx_132 (dl_at 32 7 lb_X9_digestOn_1 rfl) (dl_at 32 8 lb_X9_digestOn_1 rfl) (dl_at 32 9 lb_X9_digestOn_1 rfl) sg8_1
theorem dX9_digestOn_42 : decode cX9_digestOn 42 = .ok (.goto (-27), 3) := dx_167 (a := 255) (b := 229) (dl_at 32 10 lb_X9_digestOn_1 rfl) (dl_at 32 11 lb_X9_digestOn_1 rfl) (dl_at 32 12 lb_X9_digestOn_1 rfl) sg16_65509
theorem lb_X9_figureAt_0 : dl_ck (cX9_figureAt.data.toList.drop 0) [27, 155, 0, 33, 27, 42, 180, 0, 15, 162, 0, 25, 42, 180, 0, 9, 27, 51, 16, 48, 161, 0, 14, 42, 180, 0, 9, 27, 51, 16, 57, 164] = true := by decide +kernel
theorem lb_X9_figureAt_1 : dl_ck (cX9_figureAt.data.toList.drop 32) [0, 6, 16, 247, 172, 42, 180, 0, 9, 27, 51, 16, 48, 100, 172] = true := by decide +kernel
theorem dX9_figureAt_0 : decode cX9_figureAt 0 = .ok (.iload_n 1, 1) := dx_27 (dl_at 0 0 lb_X9_figureAt_0 rfl)
theorem dX9_figureAt_1 : decode cX9_figureAt 1 = .ok (.ifCond .lt 33, 3) := dx_155 (a := 0) (b := 33) (dl_at 0 1 lb_X9_figureAt_0 rfl) (dl_at 0 2 lb_X9_figureAt_0 rfl) (dl_at 0 3 lb_X9_figureAt_0 rfl) sg16_33
theorem dX9_figureAt_34 : decode cX9_figureAt 34 = .ok (.bipush (-9), 2) := dx_16 (dl_at 32 2 lb_X9_figureAt_1 rfl) (dl_at 32 3 lb_X9_figureAt_1 rfl) sg8_247
theorem dX9_figureAt_36 : decode cX9_figureAt 36 = .ok (.ireturn, 1) := dx_172 (dl_at 32 4 lb_X9_figureAt_1 rfl)
theorem dX9_figureAt_4 : decode cX9_figureAt 4 = .ok (.iload_n 1, 1) := dx_27 (dl_at 0 4 lb_X9_figureAt_0 rfl)
theorem dX9_figureAt_5 : decode cX9_figureAt 5 = .ok (.aload_n 0, 1) := dx_42 (dl_at 0 5 lb_X9_figureAt_0 rfl)
theorem dX9_figureAt_6 : decode cX9_figureAt 6 = .ok (.getfield 15, 3) := dx_180 (a := 0) (b := 15) (dl_at 0 6 lb_X9_figureAt_0 rfl) (dl_at 0 7 lb_X9_figureAt_0 rfl) (dl_at 0 8 lb_X9_figureAt_0 rfl) rfl
theorem dX9_figureAt_9 : decode cX9_figureAt 9 = .ok (.if_icmp .ge 25, 3) := dx_162 (a := 0) (b := 25) (dl_at 0 9 lb_X9_figureAt_0 rfl) (dl_at 0 10 lb_X9_figureAt_0 rfl) (dl_at 0 11 lb_X9_figureAt_0 rfl) sg16_25
theorem dX9_figureAt_12 : decode cX9_figureAt 12 = .ok (.aload_n 0, 1) := dx_42 (dl_at 0 12 lb_X9_figureAt_0 rfl)
theorem dX9_figureAt_13 : decode cX9_figureAt 13 = .ok (.getfield 9, 3) := dx_180 (a := 0) (b := 9) (dl_at 0 13 lb_X9_figureAt_0 rfl) (dl_at 0 14 lb_X9_figureAt_0 rfl) (dl_at 0 15 lb_X9_figureAt_0 rfl) rfl
theorem dX9_figureAt_16 : decode cX9_figureAt 16 = .ok (.iload_n 1, 1) := dx_27 (dl_at 0 16 lb_X9_figureAt_0 rfl)
theorem dX9_figureAt_17 : decode cX9_figureAt 17 = .ok (.baload, 1) := dx_51 (dl_at 0 17 lb_X9_figureAt_0 rfl)
theorem dX9_figureAt_18 : decode cX9_figureAt 18 = .ok (.bipush 48, 2) := dx_16 (dl_at 0 18 lb_X9_figureAt_0 rfl) (dl_at 0 19 lb_X9_figureAt_0 rfl) sg8_48
theorem dX9_figureAt_20 : decode cX9_figureAt 20 = .ok (.if_icmp .lt 14, 3) := dx_161 (a := 0) (b := 14) (dl_at 0 20 lb_X9_figureAt_0 rfl) (dl_at 0 21 lb_X9_figureAt_0 rfl) (dl_at 0 22 lb_X9_figureAt_0 rfl) sg16_14
theorem dX9_figureAt_23 : decode cX9_figureAt 23 = .ok (.aload_n 0, 1) := dx_42 (dl_at 0 23 lb_X9_figureAt_0 rfl)
theorem dX9_figureAt_24 : decode cX9_figureAt 24 = .ok (.getfield 9, 3) := dx_180 (a := 0) (b := 9) (dl_at 0 24 lb_X9_figureAt_0 rfl) (dl_at 0 25 lb_X9_figureAt_0 rfl) (dl_at 0 26 lb_X9_figureAt_0 rfl) rfl
theorem dX9_figureAt_27 : decode cX9_figureAt 27 = .ok (.iload_n 1, 1) := dx_27 (dl_at 0 27 lb_X9_figureAt_0 rfl)
theorem dX9_figureAt_28 : decode cX9_figureAt 28 = .ok (.baload, 1) := dx_51 (dl_at 0 28 lb_X9_figureAt_0 rfl)
theorem dX9_figureAt_29 : decode cX9_figureAt 29 = .ok (.bipush 57, 2) := dx_16 (dl_at 0 29 lb_X9_figureAt_0 rfl) (dl_at 0 30 lb_X9_figureAt_0 rfl) sg8_57
theorem dX9_figureAt_31 : decode cX9_figureAt 31 = .ok (.if_icmp .le 6, 3) := dx_164 (a := 0) (b := 6) (dl_at 0 31 lb_X9_figureAt_0 rfl) (dl_at 32 0 lb_X9_figureAt_1 rfl) (dl_at 32 1 lb_X9_figureAt_1 rfl) sg16_6
theorem dX9_figureAt_37 : decode cX9_figureAt 37 = .ok (.aload_n 0, 1) := dx_42 (dl_at 32 5 lb_X9_figureAt_1 rfl)
theorem dX9_figureAt_38 : decode cX9_figureAt 38 = .ok (.getfield 9, 3) := dx_180 (a := 0) (b := 9) (dl_at 32 6 lb_X9_figureAt_1 rfl) (dl_at 32 7 lb_X9_figureAt_1 rfl) (dl_at 32 8 lb_X9_figureAt_1 rfl) rfl
theorem dX9_figureAt_41 : decode cX9_figureAt 41 = .ok (.iload_n 1, 1) := dx_27 (dl_at 32 9 lb_X9_figureAt_1 rfl)
theorem dX9_figureAt_42 : decode cX9_figureAt 42 = .ok (.baload, 1) := dx_51 (dl_at 32 10 lb_X9_figureAt_1 rfl)
theorem dX9_figureAt_43 : decode cX9_figureAt 43 = .ok (.bipush 48, 2) := dx_16 (dl_at 32 11 lb_X9_figureAt_1 rfl) (dl_at 32 12 lb_X9_figureAt_1 rfl) sg8_48
theorem dX9_figureAt_45 : decode cX9_figureAt 45 = .ok (.isub, 1) := dx_100 (dl_at 32 13 lb_X9_figureAt_1 rfl)
theorem dX9_figureAt_46 : decode cX9_figureAt 46 = .ok (.ireturn, 1) := dx_172 (dl_at 32 14 lb_X9_figureAt_1 rfl)
theorem lb_X11_row_0 : dl_ck (cX11_row.data.toList.drop 0) [27, 184, 0, 69, 153, 0, 9, 28, 16, 40, 164, 0, 5, 2, 172, 28, 156, 0, 9, 42, 8, 182, 0, 73, 172, 42, 180, 0, 11, 27, 50, 28] = true := by decide +kernel
theorem lb_X11_row_1 : dl_ck (cX11_row.data.toList.drop 32) [182, 0, 77, 28, 172] = true := by decide +kernel
theorem dX11_row_0 : decode cX11_row 0 = .ok (.iload_n 1, 1) := dx_27 (dl_at 0 0 lb_X11_row_0 rfl)
theorem dX11_row_1 : decode cX11_row 1 = .ok (.invokestatic 69, 3) := dx_184 (a := 0) (b := 69) (dl_at 0 1 lb_X11_row_0 rfl) (dl_at 0 2 lb_X11_row_0 rfl) (dl_at 0 3 lb_X11_row_0 rfl) rfl
theorem dX11_row_4 : decode cX11_row 4 = .ok (.ifCond .eq 9, 3) := dx_153 (a := 0) (b := 9) (dl_at 0 4 lb_X11_row_0 rfl) (dl_at 0 5 lb_X11_row_0 rfl) (dl_at 0 6 lb_X11_row_0 rfl) sg16_9
theorem dX11_row_7 : decode cX11_row 7 = .ok (.iload_n 2, 1) := dx_28 (dl_at 0 7 lb_X11_row_0 rfl)
theorem dX11_row_8 : decode cX11_row 8 = .ok (.bipush 40, 2) := dx_16 (dl_at 0 8 lb_X11_row_0 rfl) (dl_at 0 9 lb_X11_row_0 rfl) sg8_40
theorem dX11_row_10 : decode cX11_row 10 = .ok (.if_icmp .le 5, 3) := dx_164 (a := 0) (b := 5) (dl_at 0 10 lb_X11_row_0 rfl) (dl_at 0 11 lb_X11_row_0 rfl) (dl_at 0 12 lb_X11_row_0 rfl) sg16_5
theorem dX11_row_15 : decode cX11_row 15 = .ok (.iload_n 2, 1) := dx_28 (dl_at 0 15 lb_X11_row_0 rfl)
theorem dX11_row_16 : decode cX11_row 16 = .ok (.ifCond .ge 9, 3) := dx_156 (a := 0) (b := 9) (dl_at 0 16 lb_X11_row_0 rfl) (dl_at 0 17 lb_X11_row_0 rfl) (dl_at 0 18 lb_X11_row_0 rfl) sg16_9
theorem dX11_row_25 : decode cX11_row 25 = .ok (.aload_n 0, 1) := dx_42 (dl_at 0 25 lb_X11_row_0 rfl)
theorem dX11_row_26 : decode cX11_row 26 = .ok (.getfield 11, 3) := dx_180 (a := 0) (b := 11) (dl_at 0 26 lb_X11_row_0 rfl) (dl_at 0 27 lb_X11_row_0 rfl) (dl_at 0 28 lb_X11_row_0 rfl) rfl
theorem dX11_row_29 : decode cX11_row 29 = .ok (.iload_n 1, 1) := dx_27 (dl_at 0 29 lb_X11_row_0 rfl)
theorem dX11_row_30 : decode cX11_row 30 = .ok (.aaload, 1) := dx_50 (dl_at 0 30 lb_X11_row_0 rfl)
theorem dX11_row_31 : decode cX11_row 31 = .ok (.iload_n 2, 1) := dx_28 (dl_at 0 31 lb_X11_row_0 rfl)
theorem dX11_row_32 : decode cX11_row 32 = .ok (.invokevirtual 77, 3) := dx_182 (a := 0) (b := 77) (dl_at 32 0 lb_X11_row_1 rfl) (dl_at 32 1 lb_X11_row_1 rfl) (dl_at 32 2 lb_X11_row_1 rfl) rfl
theorem dX11_row_35 : decode cX11_row 35 = .ok (.iload_n 2, 1) := dx_28 (dl_at 32 3 lb_X11_row_1 rfl)
theorem dX11_row_36 : decode cX11_row 36 = .ok (.ireturn, 1) := dx_172 (dl_at 32 4 lb_X11_row_1 rfl)
theorem dX11_row_19 : decode cX11_row 19 = .ok (.aload_n 0, 1) := dx_42 (dl_at 0 19 lb_X11_row_0 rfl)
theorem dX11_row_20 : decode cX11_row 20 = .ok (.iconst 5, 1) := dx_8 (dl_at 0 20 lb_X11_row_0 rfl)
theorem dX11_row_21 : decode cX11_row 21 = .ok (.invokevirtual 73, 3) := dx_182 (a := 0) (b := 73) (dl_at 0 21 lb_X11_row_0 rfl) (dl_at 0 22 lb_X11_row_0 rfl) (dl_at 0 23 lb_X11_row_0 rfl) rfl
theorem dX11_row_24 : decode cX11_row 24 = .ok (.ireturn, 1) := dx_172 (dl_at 0 24 lb_X11_row_0 rfl)
theorem dX11_row_13 : decode cX11_row 13 = .ok (.iconst (-1), 1) := dx_2 (dl_at 0 13 lb_X11_row_0 rfl)
theorem dX11_row_14 : decode cX11_row 14 = .ok (.ireturn, 1) := dx_172 (dl_at 0 14 lb_X11_row_0 rfl)
theorem lb_X11_text_0 : dl_ck (cX11_text.data.toList.drop 0) [27, 184, 0, 112, 153, 0, 9, 28, 16, 80, 164, 0, 5, 2, 172, 28, 156, 0, 9, 42, 8, 182, 0, 73, 172, 42, 180, 0, 17, 27, 50, 28] = true := by decide +kernel
theorem lb_X11_text_1 : dl_ck (cX11_text.data.toList.drop 32) [182, 0, 115, 28, 172] = true := by decide +kernel
theorem dX11_text_0 : decode cX11_text 0 = .ok (.iload_n 1, 1) := dx_27 (dl_at 0 0 lb_X11_text_0 rfl)
theorem dX11_text_1 : decode cX11_text 1 = .ok (.invokestatic 112, 3) := dx_184 (a := 0) (b := 112) (dl_at 0 1 lb_X11_text_0 rfl) (dl_at 0 2 lb_X11_text_0 rfl) (dl_at 0 3 lb_X11_text_0 rfl) rfl
theorem dX11_text_4 : decode cX11_text 4 = .ok (.ifCond .eq 9, 3) := dx_153 (a := 0) (b := 9) (dl_at 0 4 lb_X11_text_0 rfl) (dl_at 0 5 lb_X11_text_0 rfl) (dl_at 0 6 lb_X11_text_0 rfl) sg16_9
theorem dX11_text_7 : decode cX11_text 7 = .ok (.iload_n 2, 1) := dx_28 (dl_at 0 7 lb_X11_text_0 rfl)
theorem dX11_text_8 : decode cX11_text 8 = .ok (.bipush 80, 2) := dx_16 (dl_at 0 8 lb_X11_text_0 rfl) (dl_at 0 9 lb_X11_text_0 rfl) sg8_80
theorem dX11_text_10 : decode cX11_text 10 = .ok (.if_icmp .le 5, 3) := dx_164 (a := 0) (b := 5) (dl_at 0 10 lb_X11_text_0 rfl) (dl_at 0 11 lb_X11_text_0 rfl) (dl_at 0 12 lb_X11_text_0 rfl) sg16_5
theorem dX11_text_15 : decode cX11_text 15 = .ok (.iload_n 2, 1) := dx_28 (dl_at 0 15 lb_X11_text_0 rfl)
theorem dX11_text_16 : decode cX11_text 16 = .ok (.ifCond .ge 9, 3) := dx_156 (a := 0) (b := 9) (dl_at 0 16 lb_X11_text_0 rfl) (dl_at 0 17 lb_X11_text_0 rfl) (dl_at 0 18 lb_X11_text_0 rfl) sg16_9
theorem dX11_text_25 : decode cX11_text 25 = .ok (.aload_n 0, 1) := dx_42 (dl_at 0 25 lb_X11_text_0 rfl)
theorem dX11_text_26 : decode cX11_text 26 = .ok (.getfield 17, 3) := dx_180 (a := 0) (b := 17) (dl_at 0 26 lb_X11_text_0 rfl) (dl_at 0 27 lb_X11_text_0 rfl) (dl_at 0 28 lb_X11_text_0 rfl) rfl
theorem dX11_text_29 : decode cX11_text 29 = .ok (.iload_n 1, 1) := dx_27 (dl_at 0 29 lb_X11_text_0 rfl)
theorem dX11_text_30 : decode cX11_text 30 = .ok (.aaload, 1) := dx_50 (dl_at 0 30 lb_X11_text_0 rfl)
theorem dX11_text_31 : decode cX11_text 31 = .ok (.iload_n 2, 1) := dx_28 (dl_at 0 31 lb_X11_text_0 rfl)
theorem dX11_text_32 : decode cX11_text 32 = .ok (.invokevirtual 115, 3) := dx_182 (a := 0) (b := 115) (dl_at 32 0 lb_X11_text_1 rfl) (dl_at 32 1 lb_X11_text_1 rfl) (dl_at 32 2 lb_X11_text_1 rfl) rfl
theorem dX11_text_35 : decode cX11_text 35 = .ok (.iload_n 2, 1) := dx_28 (dl_at 32 3 lb_X11_text_1 rfl)
theorem dX11_text_36 : decode cX11_text 36 = .ok (.ireturn, 1) := dx_172 (dl_at 32 4 lb_X11_text_1 rfl)
theorem dX11_text_19 : decode cX11_text 19 = .ok (.aload_n 0, 1) := dx_42 (dl_at 0 19 lb_X11_text_0 rfl)
theorem dX11_text_20 : decode cX11_text 20 = .ok (.iconst 5, 1) := dx_8 (dl_at 0 20 lb_X11_text_0 rfl)
theorem dX11_text_21 : decode cX11_text 21 = .ok (.invokevirtual 73, 3) := dx_182 (a := 0) (b := 73) (dl_at 0 21 lb_X11_text_0 rfl) (dl_at 0 22 lb_X11_text_0 rfl) (dl_at 0 23 lb_X11_text_0 rfl) rfl
theorem dX11_text_24 : decode cX11_text 24 = .ok (.ireturn, 1) := dx_172 (dl_at 0 24 lb_X11_text_0 rfl)
theorem dX11_text_13 : decode cX11_text 13 = .ok (.iconst (-1), 1) := dx_2 (dl_at 0 13 lb_X11_text_0 rfl)
theorem dX11_text_14 : decode cX11_text 14 = .ok (.ireturn, 1) := dx_172 (dl_at 0 14 lb_X11_text_0 rfl)
theorem lb_X11_copy_0 : dl_ck (cX11_copy.data.toList.drop 0) [27, 184, 0, 69, 153, 0, 10, 29, 184, 0, 69, 154, 0, 5, 2, 172, 21, 5, 156, 0, 9, 42, 8, 182, 0, 73, 172, 42, 180, 0, 11, 27] = true := by decide +kernel
theorem lb_X11_copy_1 : dl_ck (cX11_copy.data.toList.drop 32) [50, 182, 0, 98, 154, 0, 15, 42, 180, 0, 11, 29, 50, 182, 0, 98, 153, 0, 9, 42, 4, 182, 0, 73, 172, 42, 180, 0, 11, 27, 50, 28] = true := by decide +kernel
theorem lb_X11_copy_2 : dl_ck (cX11_copy.data.toList.drop 64) [21, 5, 182, 0, 102, 153, 0, 19, 42, 180, 0, 11, 29, 50, 21, 4, 21, 5, 182, 0, 102, 154, 0, 9, 42, 5, 182, 0, 73, 172, 42, 180] = true := by decide +kernel
theorem lb_X11_copy_3 : dl_ck (cX11_copy.data.toList.drop 96) [0, 11, 27, 50, 180, 0, 85, 28, 42, 180, 0, 11, 29, 50, 180, 0, 85, 21, 4, 21, 5, 184, 0, 106, 4, 172] = true := by decide +kernel
theorem dX11_copy_0 : decode cX11_copy 0 = .ok (.iload_n 1, 1) := dx_27 (dl_at 0 0 lb_X11_copy_0 rfl)
theorem dX11_copy_1 : decode cX11_copy 1 = .ok (.invokestatic 69, 3) := dx_184 (a := 0) (b := 69) (dl_at 0 1 lb_X11_copy_0 rfl) (dl_at 0 2 lb_X11_copy_0 rfl) (dl_at 0 3 lb_X11_copy_0 rfl) rfl
theorem dX11_copy_4 : decode cX11_copy 4 = .ok (.ifCond .eq 10, 3) := dx_153 (a := 0) (b := 10) (dl_at 0 4 lb_X11_copy_0 rfl) (dl_at 0 5 lb_X11_copy_0 rfl) (dl_at 0 6 lb_X11_copy_0 rfl) sg16_10
theorem dX11_copy_7 : decode cX11_copy 7 = .ok (.iload_n 3, 1) := dx_29 (dl_at 0 7 lb_X11_copy_0 rfl)
theorem dX11_copy_8 : decode cX11_copy 8 = .ok (.invokestatic 69, 3) := dx_184 (a := 0) (b := 69) (dl_at 0 8 lb_X11_copy_0 rfl) (dl_at 0 9 lb_X11_copy_0 rfl) (dl_at 0 10 lb_X11_copy_0 rfl) rfl
theorem dX11_copy_11 : decode cX11_copy 11 = .ok (.ifCond .ne 5, 3) := dx_154 (a := 0) (b := 5) (dl_at 0 11 lb_X11_copy_0 rfl) (dl_at 0 12 lb_X11_copy_0 rfl) (dl_at 0 13 lb_X11_copy_0 rfl) sg16_5
theorem dX11_copy_16 : decode cX11_copy 16 = .ok (.iload 5, 2) := dx_21 (dl_at 0 16 lb_X11_copy_0 rfl) (dl_at 0 17 lb_X11_copy_0 rfl)
theorem dX11_copy_18 : decode cX11_copy 18 = .ok (.ifCond .ge 9, 3) := dx_156 (a := 0) (b := 9) (dl_at 0 18 lb_X11_copy_0 rfl) (dl_at 0 19 lb_X11_copy_0 rfl) (dl_at 0 20 lb_X11_copy_0 rfl) sg16_9
theorem dX11_copy_27 : decode cX11_copy 27 = .ok (.aload_n 0, 1) := dx_42 (dl_at 0 27 lb_X11_copy_0 rfl)
theorem dX11_copy_28 : decode cX11_copy 28 = .ok (.getfield 11, 3) := dx_180 (a := 0) (b := 11) (dl_at 0 28 lb_X11_copy_0 rfl) (dl_at 0 29 lb_X11_copy_0 rfl) (dl_at 0 30 lb_X11_copy_0 rfl) rfl
theorem dX11_copy_31 : decode cX11_copy 31 = .ok (.iload_n 1, 1) := dx_27 (dl_at 0 31 lb_X11_copy_0 rfl)
theorem dX11_copy_32 : decode cX11_copy 32 = .ok (.aaload, 1) := dx_50 (dl_at 32 0 lb_X11_copy_1 rfl)
theorem dX11_copy_33 : decode cX11_copy 33 = .ok (.invokevirtual 98, 3) := dx_182 (a := 0) (b := 98) (dl_at 32 1 lb_X11_copy_1 rfl) (dl_at 32 2 lb_X11_copy_1 rfl) (dl_at 32 3 lb_X11_copy_1 rfl) rfl
theorem dX11_copy_36 : decode cX11_copy 36 = .ok (.ifCond .ne 15, 3) := dx_154 (a := 0) (b := 15) (dl_at 32 4 lb_X11_copy_1 rfl) (dl_at 32 5 lb_X11_copy_1 rfl) (dl_at 32 6 lb_X11_copy_1 rfl) sg16_15
theorem dX11_copy_51 : decode cX11_copy 51 = .ok (.aload_n 0, 1) := dx_42 (dl_at 32 19 lb_X11_copy_1 rfl)
theorem dX11_copy_52 : decode cX11_copy 52 = .ok (.iconst 1, 1) := dx_4 (dl_at 32 20 lb_X11_copy_1 rfl)
theorem dX11_copy_53 : decode cX11_copy 53 = .ok (.invokevirtual 73, 3) := dx_182 (a := 0) (b := 73) (dl_at 32 21 lb_X11_copy_1 rfl) (dl_at 32 22 lb_X11_copy_1 rfl) (dl_at 32 23 lb_X11_copy_1 rfl) rfl
theorem dX11_copy_56 : decode cX11_copy 56 = .ok (.ireturn, 1) := dx_172 (dl_at 32 24 lb_X11_copy_1 rfl)
theorem dX11_copy_39 : decode cX11_copy 39 = .ok (.aload_n 0, 1) := dx_42 (dl_at 32 7 lb_X11_copy_1 rfl)
theorem dX11_copy_40 : decode cX11_copy 40 = .ok (.getfield 11, 3) := dx_180 (a := 0) (b := 11) (dl_at 32 8 lb_X11_copy_1 rfl) (dl_at 32 9 lb_X11_copy_1 rfl) (dl_at 32 10 lb_X11_copy_1 rfl) rfl
theorem dX11_copy_43 : decode cX11_copy 43 = .ok (.iload_n 3, 1) := dx_29 (dl_at 32 11 lb_X11_copy_1 rfl)
theorem dX11_copy_44 : decode cX11_copy 44 = .ok (.aaload, 1) := dx_50 (dl_at 32 12 lb_X11_copy_1 rfl)
theorem dX11_copy_45 : decode cX11_copy 45 = .ok (.invokevirtual 98, 3) := dx_182 (a := 0) (b := 98) (dl_at 32 13 lb_X11_copy_1 rfl) (dl_at 32 14 lb_X11_copy_1 rfl) (dl_at 32 15 lb_X11_copy_1 rfl) rfl
theorem dX11_copy_48 : decode cX11_copy 48 = .ok (.ifCond .eq 9, 3) := dx_153 (a := 0) (b := 9) (dl_at 32 16 lb_X11_copy_1 rfl) (dl_at 32 17 lb_X11_copy_1 rfl) (dl_at 32 18 lb_X11_copy_1 rfl) sg16_9
theorem dX11_copy_57 : decode cX11_copy 57 = .ok (.aload_n 0, 1) := dx_42 (dl_at 32 25 lb_X11_copy_1 rfl)
theorem dX11_copy_58 : decode cX11_copy 58 = .ok (.getfield 11, 3) := dx_180 (a := 0) (b := 11) (dl_at 32 26 lb_X11_copy_1 rfl) (dl_at 32 27 lb_X11_copy_1 rfl) (dl_at 32 28 lb_X11_copy_1 rfl) rfl
theorem dX11_copy_61 : decode cX11_copy 61 = .ok (.iload_n 1, 1) := dx_27 (dl_at 32 29 lb_X11_copy_1 rfl)
theorem dX11_copy_62 : decode cX11_copy 62 = .ok (.aaload, 1) := dx_50 (dl_at 32 30 lb_X11_copy_1 rfl)
theorem dX11_copy_63 : decode cX11_copy 63 = .ok (.iload_n 2, 1) := dx_28 (dl_at 32 31 lb_X11_copy_1 rfl)
theorem dX11_copy_64 : decode cX11_copy 64 = .ok (.iload 5, 2) := dx_21 (dl_at 64 0 lb_X11_copy_2 rfl) (dl_at 64 1 lb_X11_copy_2 rfl)
theorem dX11_copy_66 : decode cX11_copy 66 = .ok (.invokevirtual 102, 3) := dx_182 (a := 0) (b := 102) (dl_at 64 2 lb_X11_copy_2 rfl) (dl_at 64 3 lb_X11_copy_2 rfl) (dl_at 64 4 lb_X11_copy_2 rfl) rfl
theorem dX11_copy_69 : decode cX11_copy 69 = .ok (.ifCond .eq 19, 3) := dx_153 (a := 0) (b := 19) (dl_at 64 5 lb_X11_copy_2 rfl) (dl_at 64 6 lb_X11_copy_2 rfl) (dl_at 64 7 lb_X11_copy_2 rfl) sg16_19
theorem dX11_copy_72 : decode cX11_copy 72 = .ok (.aload_n 0, 1) := dx_42 (dl_at 64 8 lb_X11_copy_2 rfl)
theorem dX11_copy_73 : decode cX11_copy 73 = .ok (.getfield 11, 3) := dx_180 (a := 0) (b := 11) (dl_at 64 9 lb_X11_copy_2 rfl) (dl_at 64 10 lb_X11_copy_2 rfl) (dl_at 64 11 lb_X11_copy_2 rfl) rfl
theorem dX11_copy_76 : decode cX11_copy 76 = .ok (.iload_n 3, 1) := dx_29 (dl_at 64 12 lb_X11_copy_2 rfl)
theorem dX11_copy_77 : decode cX11_copy 77 = .ok (.aaload, 1) := dx_50 (dl_at 64 13 lb_X11_copy_2 rfl)
theorem dX11_copy_78 : decode cX11_copy 78 = .ok (.iload 4, 2) := dx_21 (dl_at 64 14 lb_X11_copy_2 rfl) (dl_at 64 15 lb_X11_copy_2 rfl)
theorem dX11_copy_80 : decode cX11_copy 80 = .ok (.iload 5, 2) := dx_21 (dl_at 64 16 lb_X11_copy_2 rfl) (dl_at 64 17 lb_X11_copy_2 rfl)
theorem dX11_copy_82 : decode cX11_copy 82 = .ok (.invokevirtual 102, 3) := dx_182 (a := 0) (b := 102) (dl_at 64 18 lb_X11_copy_2 rfl) (dl_at 64 19 lb_X11_copy_2 rfl) (dl_at 64 20 lb_X11_copy_2 rfl) rfl
theorem dX11_copy_85 : decode cX11_copy 85 = .ok (.ifCond .ne 9, 3) := dx_154 (a := 0) (b := 9) (dl_at 64 21 lb_X11_copy_2 rfl) (dl_at 64 22 lb_X11_copy_2 rfl) (dl_at 64 23 lb_X11_copy_2 rfl) sg16_9
theorem dX11_copy_94 : decode cX11_copy 94 = .ok (.aload_n 0, 1) := dx_42 (dl_at 64 30 lb_X11_copy_2 rfl)
theorem dX11_copy_95 : decode cX11_copy 95 = .ok (.getfield 11, 3) := dx_180 (a := 0) (b := 11) (dl_at 64 31 lb_X11_copy_2 rfl) (dl_at 96 0 lb_X11_copy_3 rfl) (dl_at 96 1 lb_X11_copy_3 rfl) rfl
theorem dX11_copy_98 : decode cX11_copy 98 = .ok (.iload_n 1, 1) := dx_27 (dl_at 96 2 lb_X11_copy_3 rfl)
theorem dX11_copy_99 : decode cX11_copy 99 = .ok (.aaload, 1) := dx_50 (dl_at 96 3 lb_X11_copy_3 rfl)
theorem dX11_copy_100 : decode cX11_copy 100 = .ok (.getfield 85, 3) := dx_180 (a := 0) (b := 85) (dl_at 96 4 lb_X11_copy_3 rfl) (dl_at 96 5 lb_X11_copy_3 rfl) (dl_at 96 6 lb_X11_copy_3 rfl) rfl
theorem dX11_copy_103 : decode cX11_copy 103 = .ok (.iload_n 2, 1) := dx_28 (dl_at 96 7 lb_X11_copy_3 rfl)
theorem dX11_copy_104 : decode cX11_copy 104 = .ok (.aload_n 0, 1) := dx_42 (dl_at 96 8 lb_X11_copy_3 rfl)
theorem dX11_copy_105 : decode cX11_copy 105 = .ok (.getfield 11, 3) := dx_180 (a := 0) (b := 11) (dl_at 96 9 lb_X11_copy_3 rfl) (dl_at 96 10 lb_X11_copy_3 rfl) (dl_at 96 11 lb_X11_copy_3 rfl) rfl
theorem dX11_copy_108 : decode cX11_copy 108 = .ok (.iload_n 3, 1) := dx_29 (dl_at 96 12 lb_X11_copy_3 rfl)
theorem dX11_copy_109 : decode cX11_copy 109 = .ok (.aaload, 1) := dx_50 (dl_at 96 13 lb_X11_copy_3 rfl)
theorem dX11_copy_110 : decode cX11_copy 110 = .ok (.getfield 85, 3) := dx_180 (a := 0) (b := 85) (dl_at 96 14 lb_X11_copy_3 rfl) (dl_at 96 15 lb_X11_copy_3 rfl) (dl_at 96 16 lb_X11_copy_3 rfl) rfl
theorem dX11_copy_113 : decode cX11_copy 113 = .ok (.iload 4, 2) := dx_21 (dl_at 96 17 lb_X11_copy_3 rfl) (dl_at 96 18 lb_X11_copy_3 rfl)
theorem dX11_copy_115 : decode cX11_copy 115 = .ok (.iload 5, 2) := dx_21 (dl_at 96 19 lb_X11_copy_3 rfl) (dl_at 96 20 lb_X11_copy_3 rfl)
theorem dX11_copy_117 : decode cX11_copy 117 = .ok (.invokestatic 106, 3) := dx_184 (a := 0) (b := 106) (dl_at 96 21 lb_X11_copy_3 rfl) (dl_at 96 22 lb_X11_copy_3 rfl) (dl_at 96 23 lb_X11_copy_3 rfl) rfl
theorem dX11_copy_120 : decode cX11_copy 120 = .ok (.iconst 1, 1) := dx_4 (dl_at 96 24 lb_X11_copy_3 rfl)
theorem dX11_copy_121 : decode cX11_copy 121 = .ok (.ireturn, 1) := dx_172 (dl_at 96 25 lb_X11_copy_3 rfl)
theorem dX11_copy_88 : decode cX11_copy 88 = .ok (.aload_n 0, 1) := dx_42 (dl_at 64 24 lb_X11_copy_2 rfl)
theorem dX11_copy_89 : decode cX11_copy 89 = .ok (.iconst 2, 1) := dx_5 (dl_at 64 25 lb_X11_copy_2 rfl)
theorem dX11_copy_90 : decode cX11_copy 90 = .ok (.invokevirtual 73, 3) := dx_182 (a := 0) (b := 73) (dl_at 64 26 lb_X11_copy_2 rfl) (dl_at 64 27 lb_X11_copy_2 rfl) (dl_at 64 28 lb_X11_copy_2 rfl) rfl
theorem dX11_copy_93 : decode cX11_copy 93 = .ok (.ireturn, 1) := dx_172 (dl_at 64 29 lb_X11_copy_2 rfl)
theorem dX11_copy_21 : decode cX11_copy 21 = .ok (.aload_n 0, 1) := dx_42 (dl_at 0 21 lb_X11_copy_0 rfl)
theorem dX11_copy_22 : decode cX11_copy 22 = .ok (.iconst 5, 1) := dx_8 (dl_at 0 22 lb_X11_copy_0 rfl)
theorem dX11_copy_23 : decode cX11_copy 23 = .ok (.invokevirtual 73, 3) := dx_182 (a := 0) (b := 73) (dl_at 0 23 lb_X11_copy_0 rfl) (dl_at 0 24 lb_X11_copy_0 rfl) (dl_at 0 25 lb_X11_copy_0 rfl) rfl
theorem dX11_copy_26 : decode cX11_copy 26 = .ok (.ireturn, 1) := dx_172 (dl_at 0 26 lb_X11_copy_0 rfl)
theorem dX11_copy_14 : decode cX11_copy 14 = .ok (.iconst (-1), 1) := dx_2 (dl_at 0 14 lb_X11_copy_0 rfl)
theorem dX11_copy_15 : decode cX11_copy 15 = .ok (.ireturn, 1) := dx_172 (dl_at 0 15 lb_X11_copy_0 rfl)
theorem lb_X11_mean_0 : dl_ck (cX11_mean.data.toList.drop 0) [42, 27, 182, 0, 92, 61, 28, 153, 0, 5, 28, 172, 42, 180, 0, 11, 27, 50, 180, 0, 95, 62, 29, 157, 0, 9, 42, 7, 182, 0, 73, 172] = true := by decide +kernel
theorem lb_X11_mean_1 : dl_ck (cX11_mean.data.toList.drop 32) [9, 55, 4, 3, 54, 6, 21, 6, 29, 162, 0, 27, 22, 4, 42, 180, 0, 11, 27, 50, 180, 0, 85, 21, 6, 46, 133, 97, 55, 4, 132, 6] = true := by decide +kernel
theorem lb_X11_mean_2 : dl_ck (cX11_mean.data.toList.drop 64) [1, 167, 255, 229, 42, 22, 4, 29, 133, 109, 136, 181, 0, 88, 4, 172] = true := by decide +kernel
theorem dX11_mean_0 : decode cX11_mean 0 = .ok (.aload_n 0, 1) := dx_42 (dl_at 0 0 lb_X11_mean_0 rfl)
theorem dX11_mean_1 : decode cX11_mean 1 = .ok (.iload_n 1, 1) := dx_27 (dl_at 0 1 lb_X11_mean_0 rfl)
theorem dX11_mean_2 : decode cX11_mean 2 = .ok (.invokevirtual 92, 3) := dx_182 (a := 0) (b := 92) (dl_at 0 2 lb_X11_mean_0 rfl) (dl_at 0 3 lb_X11_mean_0 rfl) (dl_at 0 4 lb_X11_mean_0 rfl) rfl
theorem dX11_mean_5 : decode cX11_mean 5 = .ok (.istore_n 2, 1) := dx_61 (dl_at 0 5 lb_X11_mean_0 rfl)
theorem dX11_mean_6 : decode cX11_mean 6 = .ok (.iload_n 2, 1) := dx_28 (dl_at 0 6 lb_X11_mean_0 rfl)
theorem dX11_mean_7 : decode cX11_mean 7 = .ok (.ifCond .eq 5, 3) := dx_153 (a := 0) (b := 5) (dl_at 0 7 lb_X11_mean_0 rfl) (dl_at 0 8 lb_X11_mean_0 rfl) (dl_at 0 9 lb_X11_mean_0 rfl) sg16_5
theorem dX11_mean_12 : decode cX11_mean 12 = .ok (.aload_n 0, 1) := dx_42 (dl_at 0 12 lb_X11_mean_0 rfl)
theorem dX11_mean_13 : decode cX11_mean 13 = .ok (.getfield 11, 3) := dx_180 (a := 0) (b := 11) (dl_at 0 13 lb_X11_mean_0 rfl) (dl_at 0 14 lb_X11_mean_0 rfl) (dl_at 0 15 lb_X11_mean_0 rfl) rfl
theorem dX11_mean_16 : decode cX11_mean 16 = .ok (.iload_n 1, 1) := dx_27 (dl_at 0 16 lb_X11_mean_0 rfl)
theorem dX11_mean_17 : decode cX11_mean 17 = .ok (.aaload, 1) := dx_50 (dl_at 0 17 lb_X11_mean_0 rfl)
theorem dX11_mean_18 : decode cX11_mean 18 = .ok (.getfield 95, 3) := dx_180 (a := 0) (b := 95) (dl_at 0 18 lb_X11_mean_0 rfl) (dl_at 0 19 lb_X11_mean_0 rfl) (dl_at 0 20 lb_X11_mean_0 rfl) rfl
theorem dX11_mean_21 : decode cX11_mean 21 = .ok (.istore_n 3, 1) := dx_62 (dl_at 0 21 lb_X11_mean_0 rfl)
theorem dX11_mean_22 : decode cX11_mean 22 = .ok (.iload_n 3, 1) := dx_29 (dl_at 0 22 lb_X11_mean_0 rfl)
theorem dX11_mean_23 : decode cX11_mean 23 = .ok (.ifCond .gt 9, 3) := dx_157 (a := 0) (b := 9) (dl_at 0 23 lb_X11_mean_0 rfl) (dl_at 0 24 lb_X11_mean_0 rfl) (dl_at 0 25 lb_X11_mean_0 rfl) sg16_9
theorem dX11_mean_32 : decode cX11_mean 32 = .ok (.lconst 0, 1) := dx_9 (dl_at 32 0 lb_X11_mean_1 rfl)
theorem dX11_mean_33 : decode cX11_mean 33 = .ok (.lstore 4, 2) := dx_55 (dl_at 32 1 lb_X11_mean_1 rfl) (dl_at 32 2 lb_X11_mean_1 rfl)
theorem dX11_mean_35 : decode cX11_mean 35 = .ok (.iconst 0, 1) := dx_3 (dl_at 32 3 lb_X11_mean_1 rfl)
theorem dX11_mean_36 : decode cX11_mean 36 = .ok (.istore 6, 2) := dx_54 (dl_at 32 4 lb_X11_mean_1 rfl) (dl_at 32 5 lb_X11_mean_1 rfl)
theorem dX11_mean_38 : decode cX11_mean 38 = .ok (.iload 6, 2) := dx_21 (dl_at 32 6 lb_X11_mean_1 rfl) (dl_at 32 7 lb_X11_mean_1 rfl)
theorem dX11_mean_40 : decode cX11_mean 40 = .ok (.iload_n 3, 1) := dx_29 (dl_at 32 8 lb_X11_mean_1 rfl)
theorem dX11_mean_41 : decode cX11_mean 41 = .ok (.if_icmp .ge 27, 3) := dx_162 (a := 0) (b := 27) (dl_at 32 9 lb_X11_mean_1 rfl) (dl_at 32 10 lb_X11_mean_1 rfl) (dl_at 32 11 lb_X11_mean_1 rfl) sg16_27
theorem dX11_mean_68 : decode cX11_mean 68 = .ok (.aload_n 0, 1) := dx_42 (dl_at 64 4 lb_X11_mean_2 rfl)
theorem dX11_mean_69 : decode cX11_mean 69 = .ok (.lload 4, 2) := dx_22 (dl_at 64 5 lb_X11_mean_2 rfl) (dl_at 64 6 lb_X11_mean_2 rfl)
theorem dX11_mean_71 : decode cX11_mean 71 = .ok (.iload_n 3, 1) := dx_29 (dl_at 64 7 lb_X11_mean_2 rfl)
theorem dX11_mean_72 : decode cX11_mean 72 = .ok (.i2l, 1) := dx_133 (dl_at 64 8 lb_X11_mean_2 rfl)
theorem dX11_mean_73 : decode cX11_mean 73 = .ok (.ldiv, 1) := dx_109 (dl_at 64 9 lb_X11_mean_2 rfl)
theorem dX11_mean_74 : decode cX11_mean 74 = .ok (.l2i, 1) := dx_136 (dl_at 64 10 lb_X11_mean_2 rfl)
theorem dX11_mean_75 : decode cX11_mean 75 = .ok (.putfield 88, 3) := dx_181 (a := 0) (b := 88) (dl_at 64 11 lb_X11_mean_2 rfl) (dl_at 64 12 lb_X11_mean_2 rfl) (dl_at 64 13 lb_X11_mean_2 rfl) rfl
theorem dX11_mean_78 : decode cX11_mean 78 = .ok (.iconst 1, 1) := dx_4 (dl_at 64 14 lb_X11_mean_2 rfl)
theorem dX11_mean_79 : decode cX11_mean 79 = .ok (.ireturn, 1) := dx_172 (dl_at 64 15 lb_X11_mean_2 rfl)
theorem dX11_mean_44 : decode cX11_mean 44 = .ok (.lload 4, 2) := dx_22 (dl_at 32 12 lb_X11_mean_1 rfl) (dl_at 32 13 lb_X11_mean_1 rfl)
theorem dX11_mean_46 : decode cX11_mean 46 = .ok (.aload_n 0, 1) := dx_42 (dl_at 32 14 lb_X11_mean_1 rfl)
theorem dX11_mean_47 : decode cX11_mean 47 = .ok (.getfield 11, 3) := dx_180 (a := 0) (b := 11) (dl_at 32 15 lb_X11_mean_1 rfl) (dl_at 32 16 lb_X11_mean_1 rfl) (dl_at 32 17 lb_X11_mean_1 rfl) rfl
theorem dX11_mean_50 : decode cX11_mean 50 = .ok (.iload_n 1, 1) := dx_27 (dl_at 32 18 lb_X11_mean_1 rfl)
theorem dX11_mean_51 : decode cX11_mean 51 = .ok (.aaload, 1) := dx_50 (dl_at 32 19 lb_X11_mean_1 rfl)
theorem dX11_mean_52 : decode cX11_mean 52 = .ok (.getfield 85, 3) := dx_180 (a := 0) (b := 85) (dl_at 32 20 lb_X11_mean_1 rfl) (dl_at 32 21 lb_X11_mean_1 rfl) (dl_at 32 22 lb_X11_mean_1 rfl) rfl
theorem dX11_mean_55 : decode cX11_mean 55 = .ok (.iload 6, 2) := dx_21 (dl_at 32 23 lb_X11_mean_1 rfl) (dl_at 32 24 lb_X11_mean_1 rfl)
theorem dX11_mean_57 : decode cX11_mean 57 = .ok (.iaload, 1) := dx_46 (dl_at 32 25 lb_X11_mean_1 rfl)
theorem dX11_mean_58 : decode cX11_mean 58 = .ok (.i2l, 1) := dx_133 (dl_at 32 26 lb_X11_mean_1 rfl)
theorem dX11_mean_59 : decode cX11_mean 59 = .ok (.ladd, 1) := dx_97 (dl_at 32 27 lb_X11_mean_1 rfl)
theorem dX11_mean_60 : decode cX11_mean 60 = .ok (.lstore 4, 2) := dx_55 (dl_at 32 28 lb_X11_mean_1 rfl) (dl_at 32 29 lb_X11_mean_1 rfl)
theorem dX11_mean_62 : decode cX11_mean 62 = .ok (.iinc 6 1, 3) := dx_132 (dl_at 32 30 lb_X11_mean_1 rfl) (dl_at 32 31 lb_X11_mean_1 rfl) (dl_at 64 0 lb_X11_mean_2 rfl) sg8_1
theorem dX11_mean_65 : decode cX11_mean 65 = .ok (.goto (-27), 3) := dx_167 (a := 255) (b := 229) (dl_at 64 1 lb_X11_mean_2 rfl) (dl_at 64 2 lb_X11_mean_2 rfl) (dl_at 64 3 lb_X11_mean_2 rfl) sg16_65509
theorem dX11_mean_26 : decode cX11_mean 26 = .ok (.aload_n 0, 1) := dx_42 (dl_at 0 26 lb_X11_mean_0 rfl)
theorem dX11_mean_27 : decode cX11_mean 27 = .ok (.iconst 4, 1) := dx_7 (dl_at 0 27 lb_X11_mean_0 rfl)
theorem dX11_mean_28 : decode cX11_mean 28 = .ok (.invokevirtual 73, 3) := dx_182 (a := 0) (b := 73) (dl_at 0 28 lb_X11_mean_0 rfl) (dl_at 0 29 lb_X11_mean_0 rfl) (dl_at 0 30 lb_X11_mean_0 rfl) rfl
theorem dX11_mean_31 : decode cX11_mean 31 = .ok (.ireturn, 1) := dx_172 (dl_at 0 31 lb_X11_mean_0 rfl)
theorem dX11_mean_10 : decode cX11_mean 10 = .ok (.iload_n 2, 1) := dx_28 (dl_at 0 10 lb_X11_mean_0 rfl)
theorem dX11_mean_11 : decode cX11_mean 11 = .ok (.ireturn, 1) := dx_172 (dl_at 0 11 lb_X11_mean_0 rfl)
def L_sj_fillI_places_5_0 (ka : Nat) (vv : Int32) : Nat → (Int32) → (Nat → Nat → Int32) → Nat → Nat → Int32
  | 0, v2_5, nu5_ => nu5_
  | n + 1, v2_5, nu5_ =>
    if v2_5 ≥ (40 : Int32) then (
      nu5_
    ) else (
      LETV (va_up nu5_ ka (upd (nu5_ ka) v2_5.toNatClampNeg vv) : Nat → Nat → Int32) fun nu2 =>
      LETV ((v2_5 + 1) : Int32) fun w4 =>
      L_sj_fillI_places_5_0 ka vv n (w4 : Int32) nu2
    )
def F_sj_fillI_places (mu : Nat → Nat → Int32) (ka : Nat) (vv : Int32) : Nat → Nat → Int32 :=
  L_sj_fillI_places_5_0 ka vv 43 (0 : Int32) mu
def L_sj_fillI_37_5_0 (vv : Int32) : Nat → (Int32) → (Nat → Nat → Int32) → Nat → Nat → Int32
  | 0, v2_5, nu5_ => nu5_
  | n + 1, v2_5, nu5_ =>
    if v2_5 ≥ (7 : Int32) then (
      nu5_
    ) else (
      LETV (va_up nu5_ 37 (upd (nu5_ 37) v2_5.toNatClampNeg vv) : Nat → Nat → Int32) fun nu2 =>
      LETV ((v2_5 + 1) : Int32) fun w4 =>
      L_sj_fillI_37_5_0 vv n (w4 : Int32) nu2
    )
def F_sj_fillI_37 (mu : Nat → Nat → Int32) (vv : Int32) : Nat → Nat → Int32 :=
  L_sj_fillI_37_5_0 vv 10 (0 : Int32) mu
def L_sj_fillB_5_0 (ka : Nat) (vv : Int32) : Nat → (Int32) → (Nat → Nat → Int32) → Nat → Nat → Int32
  | 0, v2_5, nu5_ => nu5_
  | n + 1, v2_5, nu5_ =>
    if v2_5 ≥ (80 : Int32) then (
      nu5_
    ) else (
      LETV (va_up nu5_ ka (upd (nu5_ ka) v2_5.toNatClampNeg (vp_nar .byte vv)) : Nat → Nat → Int32) fun nu3 =>
      LETV ((v2_5 + 1) : Int32) fun w5 =>
      L_sj_fillB_5_0 ka vv n (w5 : Int32) nu3
    )
def F_sj_fillB (mu : Nat → Nat → Int32) (ka : Nat) (vv : Int32) : Nat → Nat → Int32 :=
  L_sj_fillB_5_0 ka vv 83 (0 : Int32) mu
def F_sx_beZeros (mu : Nat → Nat → Int32) (kk : Nat) (vn : Int32) : Nat → Nat → Int32 :=
  LETV (F_sj_fillI_places mu (kk + 13) (0 : Int32) : Nat → Nat → Int32) fun xi2 =>
  LETV (va_up xi2 kk (upd (xi2 kk) 1 vn) : Nat → Nat → Int32) fun nu4 =>
  nu4
def F_sx_beBlanks (mu : Nat → Nat → Int32) (kk : Nat) (vn : Int32) : Nat → Nat → Int32 :=
  LETV (F_sj_fillB mu (kk + 13) (32 : Int32) : Nat → Nat → Int32) fun xi2 =>
  LETV (va_up xi2 kk (upd (xi2 kk) 1 vn) : Nat → Nat → Int32) fun nu4 =>
  nu4
def F_sx_Row_beLike57 (mu : Nat → Nat → Int32) (kk : Nat) (vn : Int32) : Nat → Nat → Int32 :=
  LETV (va_up mu (kk + 13) (va_cpy (mu 57) (mu (kk + 13)) (0 : Int32).toNatClampNeg (0 : Int32).toNatClampNeg (vn : Int32).toNatClampNeg) : Nat → Nat → Int32) fun nu2 =>
  LETV (va_up nu2 kk (upd (nu2 kk) 1 vn) : Nat → Nat → Int32) fun nu4 =>
  nu4
def F_sx_Row_beLike58 (mu : Nat → Nat → Int32) (kk : Nat) (vn : Int32) : Nat → Nat → Int32 :=
  LETV (va_up mu (kk + 13) (va_cpy (mu 58) (mu (kk + 13)) (0 : Int32).toNatClampNeg (0 : Int32).toNatClampNeg (vn : Int32).toNatClampNeg) : Nat → Nat → Int32) fun nu2 =>
  LETV (va_up nu2 kk (upd (nu2 kk) 1 vn) : Nat → Nat → Int32) fun nu4 =>
  nu4
def F_sx_Row_beLike60 (mu : Nat → Nat → Int32) (kk : Nat) (vn : Int32) : Nat → Nat → Int32 :=
  LETV (va_up mu (kk + 13) (va_cpy (mu 60) (mu (kk + 13)) (0 : Int32).toNatClampNeg (0 : Int32).toNatClampNeg (vn : Int32).toNatClampNeg) : Nat → Nat → Int32) fun nu2 =>
  LETV (va_up nu2 kk (upd (nu2 kk) 1 vn) : Nat → Nat → Int32) fun nu4 =>
  nu4
def F_sx_figureAt (mu : Nat → Nat → Int32) (kk : Nat) (vi : Int32) : Int32 :=
  if vi < (0 : Int32) then (
    ((-9) : Int32)
  ) else (
    LETV (mu kk 1 : Int32) fun y2 =>
    if vi ≥ y2 then (
      ((-9) : Int32)
    ) else (
      LETV (mu (kk + 13) vi.toNatClampNeg : Int32) fun y5 =>
      if y5 < (48 : Int32) then (
        ((-9) : Int32)
      ) else (
        if y5 ≤ (57 : Int32) then (
          LETV (y5 - 48 : Int32) fun t10 =>
          (t10 : Int32)
        ) else (
          ((-9) : Int32)
        )
      )
    )
  )
def F_qx_text (mu : Nat → Nat → Int32) (vt : Int32) (vn : Int32) : Int32 × (Nat → Nat → Int32) :=
  if F_sx_isText (vt : Int32) = 1 then (
    if vn ≤ (80 : Int32) then (
      if vn ≥ (0 : Int32) then (
        LETV (F_sx_beBlanks mu (14 + vt.toNatClampNeg) (vn : Int32) : Nat → Nat → Int32) fun xi5 =>
        ((vn : Int32), xi5)
      ) else (
        LETP (F_sx_found mu (5 : Int32)) fun r7 xi7 =>
        ((r7 : Int32), xi7)
      )
    ) else (
      (((-1) : Int32), mu)
    )
  ) else (
    (((-1) : Int32), mu)
  )
