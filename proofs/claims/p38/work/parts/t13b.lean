theorem rM_0_11 {mu : Nat → Nat → Int32} (ok : okR loM hiM mu) : 0 ≤ (mu 0 11).toInt ∧ (mu 0 11).toInt ≤ 12 := ok 0 11
theorem rM_10_s {mu : Nat → Nat → Int32} (ok : okR loM hiM mu) (f : Nat) : (f % 10 = 5 → 0 ≤ (mu 10 f).toInt ∧ (mu 10 f).toInt ≤ 6) := by
  have h : (if f % 10 = 5 then 0 else -2147483648) ≤ (mu 10 f).toInt ∧ (mu 10 f).toInt ≤ (if f % 10 = 5 then 6 else 2147483647) := ok 10 f
  refine (fun c => ?_) <;> (simp (discharger := omega) only [if_pos, if_neg] at h; exact h)
theorem tM_10_s {mu : Nat → Nat → Int32} (ok : okR loM hiM mu) {nu : Nat → Nat → Int32} {v : Int32} (f : Nat) (hn : va_up mu 10 (upd (mu 10) f v) = nu) (hv : (f % 10 = 5 → 0 ≤ v.toInt ∧ v.toInt ≤ 6)) : okR loM hiM nu := by
  subst hn
  exact okR_up ok 10 f v (by
    show (if f % 10 = 5 then 0 else -2147483648) ≤ v.toInt
    have h8 := tI_lo v
    (repeat' split) <;> omega) (by
    show v.toInt ≤ (if f % 10 = 5 then 6 else 2147483647)
    have h8 := tI_hi v
    (repeat' split) <;> omega)
theorem rM_0_15 {mu : Nat → Nat → Int32} (ok : okR loM hiM mu) : 0 ≤ (mu 0 15).toInt ∧ (mu 0 15).toInt ≤ 4 := ok 0 15
theorem lb_X12_isOne_0 : dl_ck (cX12_isOne.data.toList.drop 0) [27, 3, 42, 180, 0, 136, 4, 100, 184, 0, 77, 172] = true := by decide +kernel
theorem dX12_isOne_0 : decode cX12_isOne 0 = .ok (.iload_n 1, 1) := dx_27 (dl_at 0 0 lb_X12_isOne_0 rfl)
theorem dX12_isOne_1 : decode cX12_isOne 1 = .ok (.iconst 0, 1) := dx_3 (dl_at 0 1 lb_X12_isOne_0 rfl)
theorem dX12_isOne_2 : decode cX12_isOne 2 = .ok (.aload_n 0, 1) := dx_42 (dl_at 0 2 lb_X12_isOne_0 rfl)
theorem dX12_isOne_3 : decode cX12_isOne 3 = .ok (.getfield 136, 3) := dx_180 (a := 0) (b := 136) (dl_at 0 3 lb_X12_isOne_0 rfl) (dl_at 0 4 lb_X12_isOne_0 rfl) (dl_at 0 5 lb_X12_isOne_0 rfl) rfl
theorem dX12_isOne_6 : decode cX12_isOne 6 = .ok (.iconst 1, 1) := dx_4 (dl_at 0 6 lb_X12_isOne_0 rfl)
theorem dX12_isOne_7 : decode cX12_isOne 7 = .ok (.isub, 1) := dx_100 (dl_at 0 7 lb_X12_isOne_0 rfl)
theorem dX12_isOne_8 : decode cX12_isOne 8 = .ok (.invokestatic 77, 3) := dx_184 (a := 0) (b := 77) (dl_at 0 8 lb_X12_isOne_0 rfl) (dl_at 0 9 lb_X12_isOne_0 rfl) (dl_at 0 10 lb_X12_isOne_0 rfl) rfl
theorem dX12_isOne_11 : decode cX12_isOne 11 = .ok (.ireturn, 1) := dx_172 (dl_at 0 11 lb_X12_isOne_0 rfl)
theorem lb_X12_areTwo_0 : dl_ck (cX12_areTwo.data.toList.drop 0) [42, 27, 182, 0, 154, 153, 0, 20, 42, 28, 182, 0, 154, 153, 0, 12, 27, 28, 159, 0, 7, 4, 167, 0, 4, 3, 172] = true := by decide +kernel
theorem dX12_areTwo_0 : decode cX12_areTwo 0 = .ok (.aload_n 0, 1) := dx_42 (dl_at 0 0 lb_X12_areTwo_0 rfl)
theorem dX12_areTwo_1 : decode cX12_areTwo 1 = .ok (.iload_n 1, 1) := dx_27 (dl_at 0 1 lb_X12_areTwo_0 rfl)
theorem dX12_areTwo_2 : decode cX12_areTwo 2 = .ok (.invokevirtual 154, 3) := dx_182 (a := 0) (b := 154) (dl_at 0 2 lb_X12_areTwo_0 rfl) (dl_at 0 3 lb_X12_areTwo_0 rfl) (dl_at 0 4 lb_X12_areTwo_0 rfl) rfl
theorem dX12_areTwo_5 : decode cX12_areTwo 5 = .ok (.ifCond .eq 20, 3) := dx_153 (a := 0) (b := 20) (dl_at 0 5 lb_X12_areTwo_0 rfl) (dl_at 0 6 lb_X12_areTwo_0 rfl) (dl_at 0 7 lb_X12_areTwo_0 rfl) sg16_20
theorem dX12_areTwo_8 : decode cX12_areTwo 8 = .ok (.aload_n 0, 1) := dx_42 (dl_at 0 8 lb_X12_areTwo_0 rfl)
theorem dX12_areTwo_9 : decode cX12_areTwo 9 = .ok (.iload_n 2, 1) := dx_28 (dl_at 0 9 lb_X12_areTwo_0 rfl)
theorem dX12_areTwo_10 : decode cX12_areTwo 10 = .ok (.invokevirtual 154, 3) := dx_182 (a := 0) (b := 154) (dl_at 0 10 lb_X12_areTwo_0 rfl) (dl_at 0 11 lb_X12_areTwo_0 rfl) (dl_at 0 12 lb_X12_areTwo_0 rfl) rfl
theorem dX12_areTwo_13 : decode cX12_areTwo 13 = .ok (.ifCond .eq 12, 3) := dx_153 (a := 0) (b := 12) (dl_at 0 13 lb_X12_areTwo_0 rfl) (dl_at 0 14 lb_X12_areTwo_0 rfl) (dl_at 0 15 lb_X12_areTwo_0 rfl) sg16_12
theorem dX12_areTwo_16 : decode cX12_areTwo 16 = .ok (.iload_n 1, 1) := dx_27 (dl_at 0 16 lb_X12_areTwo_0 rfl)
theorem dX12_areTwo_17 : decode cX12_areTwo 17 = .ok (.iload_n 2, 1) := dx_28 (dl_at 0 17 lb_X12_areTwo_0 rfl)
theorem dX12_areTwo_18 : decode cX12_areTwo 18 = .ok (.if_icmp .eq 7, 3) := dx_159 (a := 0) (b := 7) (dl_at 0 18 lb_X12_areTwo_0 rfl) (dl_at 0 19 lb_X12_areTwo_0 rfl) (dl_at 0 20 lb_X12_areTwo_0 rfl) sg16_7
theorem dX12_areTwo_25 : decode cX12_areTwo 25 = .ok (.iconst 0, 1) := dx_3 (dl_at 0 25 lb_X12_areTwo_0 rfl)
theorem dX12_areTwo_26 : decode cX12_areTwo 26 = .ok (.ireturn, 1) := dx_172 (dl_at 0 26 lb_X12_areTwo_0 rfl)
theorem dX12_areTwo_21 : decode cX12_areTwo 21 = .ok (.iconst 1, 1) := dx_4 (dl_at 0 21 lb_X12_areTwo_0 rfl)
theorem dX12_areTwo_22 : decode cX12_areTwo 22 = .ok (.goto 4, 3) := dx_167 (a := 0) (b := 4) (dl_at 0 22 lb_X12_areTwo_0 rfl) (dl_at 0 23 lb_X12_areTwo_0 rfl) (dl_at 0 24 lb_X12_areTwo_0 rfl) sg16_4
theorem lb_X12_isA_0 : dl_ck (cX12_isA.data.toList.drop 0) [42, 180, 0, 28, 27, 46, 28, 159, 0, 33, 28, 4, 160, 0, 13, 42, 180, 0, 28, 27, 46, 7, 159, 0, 18, 28, 5, 160, 0, 17, 42, 180] = true := by decide +kernel
theorem lb_X12_isA_1 : dl_ck (cX12_isA.data.toList.drop 32) [0, 28, 27, 46, 8, 160, 0, 7, 4, 167, 0, 4, 3, 172] = true := by decide +kernel
theorem dX12_isA_0 : decode cX12_isA 0 = .ok (.aload_n 0, 1) := dx_42 (dl_at 0 0 lb_X12_isA_0 rfl)
theorem dX12_isA_1 : decode cX12_isA 1 = .ok (.getfield 28, 3) := dx_180 (a := 0) (b := 28) (dl_at 0 1 lb_X12_isA_0 rfl) (dl_at 0 2 lb_X12_isA_0 rfl) (dl_at 0 3 lb_X12_isA_0 rfl) rfl
theorem dX12_isA_4 : decode cX12_isA 4 = .ok (.iload_n 1, 1) := dx_27 (dl_at 0 4 lb_X12_isA_0 rfl)
theorem dX12_isA_5 : decode cX12_isA 5 = .ok (.iaload, 1) := dx_46 (dl_at 0 5 lb_X12_isA_0 rfl)
theorem dX12_isA_6 : decode cX12_isA 6 = .ok (.iload_n 2, 1) := dx_28 (dl_at 0 6 lb_X12_isA_0 rfl)
theorem dX12_isA_7 : decode cX12_isA 7 = .ok (.if_icmp .eq 33, 3) := dx_159 (a := 0) (b := 33) (dl_at 0 7 lb_X12_isA_0 rfl) (dl_at 0 8 lb_X12_isA_0 rfl) (dl_at 0 9 lb_X12_isA_0 rfl) sg16_33
theorem dX12_isA_40 : decode cX12_isA 40 = .ok (.iconst 1, 1) := dx_4 (dl_at 32 8 lb_X12_isA_1 rfl)
theorem dX12_isA_41 : decode cX12_isA 41 = .ok (.goto 4, 3) := dx_167 (a := 0) (b := 4) (dl_at 32 9 lb_X12_isA_1 rfl) (dl_at 32 10 lb_X12_isA_1 rfl) (dl_at 32 11 lb_X12_isA_1 rfl) sg16_4
theorem dX12_isA_45 : decode cX12_isA 45 = .ok (.ireturn, 1) := dx_172 (dl_at 32 13 lb_X12_isA_1 rfl)
theorem dX12_isA_10 : decode cX12_isA 10 = .ok (.iload_n 2, 1) := dx_28 (dl_at 0 10 lb_X12_isA_0 rfl)
theorem dX12_isA_11 : decode cX12_isA 11 = .ok (.iconst 1, 1) := dx_4 (dl_at 0 11 lb_X12_isA_0 rfl)
theorem dX12_isA_12 : decode cX12_isA 12 = .ok (.if_icmp .ne 13, 3) := dx_160 (a := 0) (b := 13) (dl_at 0 12 lb_X12_isA_0 rfl) (dl_at 0 13 lb_X12_isA_0 rfl) (dl_at 0 14 lb_X12_isA_0 rfl) sg16_13
theorem dX12_isA_25 : decode cX12_isA 25 = .ok (.iload_n 2, 1) := dx_28 (dl_at 0 25 lb_X12_isA_0 rfl)
theorem dX12_isA_26 : decode cX12_isA 26 = .ok (.iconst 2, 1) := dx_5 (dl_at 0 26 lb_X12_isA_0 rfl)
theorem dX12_isA_27 : decode cX12_isA 27 = .ok (.if_icmp .ne 17, 3) := dx_160 (a := 0) (b := 17) (dl_at 0 27 lb_X12_isA_0 rfl) (dl_at 0 28 lb_X12_isA_0 rfl) (dl_at 0 29 lb_X12_isA_0 rfl) sg16_17
theorem dX12_isA_44 : decode cX12_isA 44 = .ok (.iconst 0, 1) := dx_3 (dl_at 32 12 lb_X12_isA_1 rfl)
theorem dX12_isA_30 : decode cX12_isA 30 = .ok (.aload_n 0, 1) := dx_42 (dl_at 0 30 lb_X12_isA_0 rfl)
theorem dX12_isA_31 : decode cX12_isA 31 = .ok (.getfield 28, 3) := dx_180 (a := 0) (b := 28) (dl_at 0 31 lb_X12_isA_0 rfl) (dl_at 32 0 lb_X12_isA_1 rfl) (dl_at 32 1 lb_X12_isA_1 rfl) rfl
theorem dX12_isA_34 : decode cX12_isA 34 = .ok (.iload_n 1, 1) := dx_27 (dl_at 32 2 lb_X12_isA_1 rfl)
theorem dX12_isA_35 : decode cX12_isA 35 = .ok (.iaload, 1) := dx_46 (dl_at 32 3 lb_X12_isA_1 rfl)
theorem dX12_isA_36 : decode cX12_isA 36 = .ok (.iconst 5, 1) := dx_8 (dl_at 32 4 lb_X12_isA_1 rfl)
theorem dX12_isA_37 : decode cX12_isA 37 = .ok (.if_icmp .ne 7, 3) := dx_160 (a := 0) (b := 7) (dl_at 32 5 lb_X12_isA_1 rfl) (dl_at 32 6 lb_X12_isA_1 rfl) (dl_at 32 7 lb_X12_isA_1 rfl) sg16_7
theorem dX12_isA_15 : decode cX12_isA 15 = .ok (.aload_n 0, 1) := dx_42 (dl_at 0 15 lb_X12_isA_0 rfl)
theorem dX12_isA_16 : decode cX12_isA 16 = .ok (.getfield 28, 3) := dx_180 (a := 0) (b := 28) (dl_at 0 16 lb_X12_isA_0 rfl) (dl_at 0 17 lb_X12_isA_0 rfl) (dl_at 0 18 lb_X12_isA_0 rfl) rfl
theorem dX12_isA_19 : decode cX12_isA 19 = .ok (.iload_n 1, 1) := dx_27 (dl_at 0 19 lb_X12_isA_0 rfl)
theorem dX12_isA_20 : decode cX12_isA 20 = .ok (.iaload, 1) := dx_46 (dl_at 0 20 lb_X12_isA_0 rfl)
theorem dX12_isA_21 : decode cX12_isA 21 = .ok (.iconst 4, 1) := dx_7 (dl_at 0 21 lb_X12_isA_0 rfl)
theorem dX12_isA_22 : decode cX12_isA 22 = .ok (.if_icmp .eq 18, 3) := dx_159 (a := 0) (b := 18) (dl_at 0 22 lb_X12_isA_0 rfl) (dl_at 0 23 lb_X12_isA_0 rfl) (dl_at 0 24 lb_X12_isA_0 rfl) sg16_18
theorem lb_X12_asksOf_0 : dl_ck (cX12_asksOf.data.toList.drop 0) [42, 180, 0, 28, 27, 46, 170, 0, 0, 0, 0, 48, 0, 0, 0, 1, 0, 0, 0, 5, 0, 0, 0, 34, 0, 0, 0, 38, 0, 0, 0, 48] = true := by decide +kernel
theorem lb_X12_asksOf_1 : dl_ck (cX12_asksOf.data.toList.drop 32) [0, 0, 0, 40, 0, 0, 0, 46, 28, 6, 96, 172, 28, 172, 5, 28, 6, 96, 104, 172, 3, 172, 28, 4, 96, 172] = true := by decide +kernel
theorem dX12_asksOf_0 : decode cX12_asksOf 0 = .ok (.aload_n 0, 1) := dx_42 (dl_at 0 0 lb_X12_asksOf_0 rfl)
theorem dX12_asksOf_1 : decode cX12_asksOf 1 = .ok (.getfield 28, 3) := dx_180 (a := 0) (b := 28) (dl_at 0 1 lb_X12_asksOf_0 rfl) (dl_at 0 2 lb_X12_asksOf_0 rfl) (dl_at 0 3 lb_X12_asksOf_0 rfl) rfl
theorem dX12_asksOf_4 : decode cX12_asksOf 4 = .ok (.iload_n 1, 1) := dx_27 (dl_at 0 4 lb_X12_asksOf_0 rfl)
theorem dX12_asksOf_5 : decode cX12_asksOf 5 = .ok (.iaload, 1) := dx_46 (dl_at 0 5 lb_X12_asksOf_0 rfl)
theorem dX12_asksOf_6 : decode cX12_asksOf 6 = .ok (.tableswitch 48 1 5 #[34, 38, 48, 40, 46], 34) := by decide +kernel
theorem dX12_asksOf_54 : decode cX12_asksOf 54 = .ok (.iload_n 2, 1) := dx_28 (dl_at 32 22 lb_X12_asksOf_1 rfl)
theorem dX12_asksOf_55 : decode cX12_asksOf 55 = .ok (.iconst 1, 1) := dx_4 (dl_at 32 23 lb_X12_asksOf_1 rfl)
theorem dX12_asksOf_56 : decode cX12_asksOf 56 = .ok (.iadd, 1) := dx_96 (dl_at 32 24 lb_X12_asksOf_1 rfl)
theorem dX12_asksOf_57 : decode cX12_asksOf 57 = .ok (.ireturn, 1) := dx_172 (dl_at 32 25 lb_X12_asksOf_1 rfl)
theorem dX12_asksOf_40 : decode cX12_asksOf 40 = .ok (.iload_n 2, 1) := dx_28 (dl_at 32 8 lb_X12_asksOf_1 rfl)
theorem dX12_asksOf_41 : decode cX12_asksOf 41 = .ok (.iconst 3, 1) := dx_6 (dl_at 32 9 lb_X12_asksOf_1 rfl)
theorem dX12_asksOf_42 : decode cX12_asksOf 42 = .ok (.iadd, 1) := dx_96 (dl_at 32 10 lb_X12_asksOf_1 rfl)
theorem dX12_asksOf_43 : decode cX12_asksOf 43 = .ok (.ireturn, 1) := dx_172 (dl_at 32 11 lb_X12_asksOf_1 rfl)
theorem dX12_asksOf_44 : decode cX12_asksOf 44 = .ok (.iload_n 2, 1) := dx_28 (dl_at 32 12 lb_X12_asksOf_1 rfl)
theorem dX12_asksOf_45 : decode cX12_asksOf 45 = .ok (.ireturn, 1) := dx_172 (dl_at 32 13 lb_X12_asksOf_1 rfl)
theorem dX12_asksOf_46 : decode cX12_asksOf 46 = .ok (.iconst 2, 1) := dx_5 (dl_at 32 14 lb_X12_asksOf_1 rfl)
theorem dX12_asksOf_47 : decode cX12_asksOf 47 = .ok (.iload_n 2, 1) := dx_28 (dl_at 32 15 lb_X12_asksOf_1 rfl)
theorem dX12_asksOf_48 : decode cX12_asksOf 48 = .ok (.iconst 3, 1) := dx_6 (dl_at 32 16 lb_X12_asksOf_1 rfl)
theorem dX12_asksOf_49 : decode cX12_asksOf 49 = .ok (.iadd, 1) := dx_96 (dl_at 32 17 lb_X12_asksOf_1 rfl)
theorem dX12_asksOf_50 : decode cX12_asksOf 50 = .ok (.imul, 1) := dx_104 (dl_at 32 18 lb_X12_asksOf_1 rfl)
theorem dX12_asksOf_51 : decode cX12_asksOf 51 = .ok (.ireturn, 1) := dx_172 (dl_at 32 19 lb_X12_asksOf_1 rfl)
theorem dX12_asksOf_52 : decode cX12_asksOf 52 = .ok (.iconst 0, 1) := dx_3 (dl_at 32 20 lb_X12_asksOf_1 rfl)
theorem dX12_asksOf_53 : decode cX12_asksOf 53 = .ok (.ireturn, 1) := dx_172 (dl_at 32 21 lb_X12_asksOf_1 rfl)
theorem lb_X12_besideOf_0 : dl_ck (cX12_besideOf.data.toList.drop 0) [3, 61, 3, 62, 29, 42, 180, 0, 139, 162, 0, 76, 42, 180, 0, 34, 5, 29, 104, 46, 54, 4, 42, 180, 0, 34, 5, 29, 104, 4, 96, 46] = true := by decide +kernel
theorem lb_X12_besideOf_1 : dl_ck (cX12_besideOf.data.toList.drop 32) [54, 5, 28, 42, 180, 0, 142, 29, 184, 0, 157, 153, 0, 7, 3, 167, 0, 30, 21, 4, 27, 160, 0, 10, 4, 21, 5, 120, 167, 0, 17, 21] = true := by decide +kernel
theorem lb_X12_besideOf_2 : dl_ck (cX12_besideOf.data.toList.drop 64) [5, 27, 160, 0, 10, 4, 21, 4, 120, 167, 0, 4, 3, 128, 61, 132, 3, 1, 167, 255, 178, 28, 172] = true := by decide +kernel
theorem dX12_besideOf_0 : decode cX12_besideOf 0 = .ok (.iconst 0, 1) := dx_3 (dl_at 0 0 lb_X12_besideOf_0 rfl)
theorem dX12_besideOf_1 : decode cX12_besideOf 1 = .ok (.istore_n 2, 1) := dx_61 (dl_at 0 1 lb_X12_besideOf_0 rfl)
theorem dX12_besideOf_2 : decode cX12_besideOf 2 = .ok (.iconst 0, 1) := dx_3 (dl_at 0 2 lb_X12_besideOf_0 rfl)
theorem dX12_besideOf_3 : decode cX12_besideOf 3 = .ok (.istore_n 3, 1) := dx_62 (dl_at 0 3 lb_X12_besideOf_0 rfl)
theorem dX12_besideOf_4 : decode cX12_besideOf 4 = .ok (.iload_n 3, 1) := dx_29 (dl_at 0 4 lb_X12_besideOf_0 rfl)
theorem dX12_besideOf_5 : decode cX12_besideOf 5 = .ok (.aload_n 0, 1) := dx_42 (dl_at 0 5 lb_X12_besideOf_0 rfl)
theorem dX12_besideOf_6 : decode cX12_besideOf 6 = .ok (.getfield 139, 3) := dx_180 (a := 0) (b := 139) (dl_at 0 6 lb_X12_besideOf_0 rfl) (dl_at 0 7 lb_X12_besideOf_0 rfl) (dl_at 0 8 lb_X12_besideOf_0 rfl) rfl
theorem dX12_besideOf_9 : decode cX12_besideOf 9 = .ok (.if_icmp .ge 76, 3) := dx_162 (a := 0) (b := 76) (dl_at 0 9 lb_X12_besideOf_0 rfl) (dl_at 0 10 lb_X12_besideOf_0 rfl) (dl_at 0 11 lb_X12_besideOf_0 rfl) sg16_76
theorem dX12_besideOf_85 : decode cX12_besideOf 85 = .ok (.iload_n 2, 1) := dx_28 (dl_at 64 21 lb_X12_besideOf_2 rfl)
theorem dX12_besideOf_86 : decode cX12_besideOf 86 = .ok (.ireturn, 1) := dx_172 (dl_at 64 22 lb_X12_besideOf_2 rfl)
theorem dX12_besideOf_12 : decode cX12_besideOf 12 = .ok (.aload_n 0, 1) := dx_42 (dl_at 0 12 lb_X12_besideOf_0 rfl)
theorem dX12_besideOf_13 : decode cX12_besideOf 13 = .ok (.getfield 34, 3) := dx_180 (a := 0) (b := 34) (dl_at 0 13 lb_X12_besideOf_0 rfl) (dl_at 0 14 lb_X12_besideOf_0 rfl) (dl_at 0 15 lb_X12_besideOf_0 rfl) rfl
theorem dX12_besideOf_16 : decode cX12_besideOf 16 = .ok (.iconst 2, 1) := dx_5 (dl_at 0 16 lb_X12_besideOf_0 rfl)
theorem dX12_besideOf_17 : decode cX12_besideOf 17 = .ok (.iload_n 3, 1) := dx_29 (dl_at 0 17 lb_X12_besideOf_0 rfl)
theorem dX12_besideOf_18 : decode cX12_besideOf 18 = .ok (.imul, 1) := dx_104 (dl_at 0 18 lb_X12_besideOf_0 rfl)
theorem dX12_besideOf_19 : decode cX12_besideOf 19 = .ok (.iaload, 1) := dx_46 (dl_at 0 19 lb_X12_besideOf_0 rfl)
theorem dX12_besideOf_20 : decode cX12_besideOf 20 = .ok (.istore 4, 2) := dx_54 (dl_at 0 20 lb_X12_besideOf_0 rfl) (dl_at 0 21 lb_X12_besideOf_0 rfl)
theorem dX12_besideOf_22 : decode cX12_besideOf 22 = .ok (.aload_n 0, 1) := dx_42 (dl_at 0 22 lb_X12_besideOf_0 rfl)
theorem dX12_besideOf_23 : decode cX12_besideOf 23 = .ok (.getfield 34, 3) := dx_180 (a := 0) (b := 34) (dl_at 0 23 lb_X12_besideOf_0 rfl) (dl_at 0 24 lb_X12_besideOf_0 rfl) (dl_at 0 25 lb_X12_besideOf_0 rfl) rfl
theorem dX12_besideOf_26 : decode cX12_besideOf 26 = .ok (.iconst 2, 1) := dx_5 (dl_at 0 26 lb_X12_besideOf_0 rfl)
theorem dX12_besideOf_27 : decode cX12_besideOf 27 = .ok (.iload_n 3, 1) := dx_29 (dl_at 0 27 lb_X12_besideOf_0 rfl)
theorem dX12_besideOf_28 : decode cX12_besideOf 28 = .ok (.imul, 1) := dx_104 (dl_at 0 28 lb_X12_besideOf_0 rfl)
theorem dX12_besideOf_29 : decode cX12_besideOf 29 = .ok (.iconst 1, 1) := dx_4 (dl_at 0 29 lb_X12_besideOf_0 rfl)
theorem dX12_besideOf_30 : decode cX12_besideOf 30 = .ok (.iadd, 1) := dx_96 (dl_at 0 30 lb_X12_besideOf_0 rfl)
theorem dX12_besideOf_31 : decode cX12_besideOf 31 = .ok (.iaload, 1) := dx_46 (dl_at 0 31 lb_X12_besideOf_0 rfl)
theorem dX12_besideOf_32 : decode cX12_besideOf 32 = .ok (.istore 5, 2) := dx_54 (dl_at 32 0 lb_X12_besideOf_1 rfl) (dl_at 32 1 lb_X12_besideOf_1 rfl)
theorem dX12_besideOf_34 : decode cX12_besideOf 34 = .ok (.iload_n 2, 1) := dx_28 (dl_at 32 2 lb_X12_besideOf_1 rfl)
theorem dX12_besideOf_35 : decode cX12_besideOf 35 = .ok (.aload_n 0, 1) := dx_42 (dl_at 32 3 lb_X12_besideOf_1 rfl)
theorem dX12_besideOf_36 : decode cX12_besideOf 36 = .ok (.getfield 142, 3) := dx_180 (a := 0) (b := 142) (dl_at 32 4 lb_X12_besideOf_1 rfl) (dl_at 32 5 lb_X12_besideOf_1 rfl) (dl_at 32 6 lb_X12_besideOf_1 rfl) rfl
theorem dX12_besideOf_39 : decode cX12_besideOf 39 = .ok (.iload_n 3, 1) := dx_29 (dl_at 32 7 lb_X12_besideOf_1 rfl)
theorem dX12_besideOf_40 : decode cX12_besideOf 40 = .ok (.invokestatic 157, 3) := dx_184 (a := 0) (b := 157) (dl_at 32 8 lb_X12_besideOf_1 rfl) (dl_at 32 9 lb_X12_besideOf_1 rfl) (dl_at 32 10 lb_X12_besideOf_1 rfl) rfl
theorem dX12_besideOf_43 : decode cX12_besideOf 43 = .ok (.ifCond .eq 7, 3) := dx_153 (a := 0) (b := 7) (dl_at 32 11 lb_X12_besideOf_1 rfl) (dl_at 32 12 lb_X12_besideOf_1 rfl) (dl_at 32 13 lb_X12_besideOf_1 rfl) sg16_7
theorem dX12_besideOf_46 : decode cX12_besideOf 46 = .ok (.iconst 0, 1) := dx_3 (dl_at 32 14 lb_X12_besideOf_1 rfl)
theorem dX12_besideOf_47 : decode cX12_besideOf 47 = .ok (.goto 30, 3) := dx_167 (a := 0) (b := 30) (dl_at 32 15 lb_X12_besideOf_1 rfl) (dl_at 32 16 lb_X12_besideOf_1 rfl) (dl_at 32 17 lb_X12_besideOf_1 rfl) sg16_30
theorem dX12_besideOf_77 : decode cX12_besideOf 77 = .ok (.ior, 1) := dx_128 (dl_at 64 13 lb_X12_besideOf_2 rfl)
theorem dX12_besideOf_78 : decode cX12_besideOf 78 = .ok (.istore_n 2, 1) := dx_61 (dl_at 64 14 lb_X12_besideOf_2 rfl)
theorem dX12_besideOf_79 : decode cX12_besideOf 79 = .ok (.iinc 3 1, 3) := dx_132 (dl_at 64 15 lb_X12_besideOf_2 rfl) (dl_at 64 16 lb_X12_besideOf_2 rfl) (dl_at 64 17 lb_X12_besideOf_2 rfl) sg8_1
theorem dX12_besideOf_82 : decode cX12_besideOf 82 = .ok (.goto (-78), 3) := dx_167 (a := 255) (b := 178) (dl_at 64 18 lb_X12_besideOf_2 rfl) (dl_at 64 19 lb_X12_besideOf_2 rfl) (dl_at 64 20 lb_X12_besideOf_2 rfl) sg16_65458
theorem dX12_besideOf_50 : decode cX12_besideOf 50 = .ok (.iload 4, 2) := dx_21 (dl_at 32 18 lb_X12_besideOf_1 rfl) (dl_at 32 19 lb_X12_besideOf_1 rfl)
theorem dX12_besideOf_52 : decode cX12_besideOf 52 = .ok (.iload_n 1, 1) := dx_27 (dl_at 32 20 lb_X12_besideOf_1 rfl)
theorem dX12_besideOf_53 : decode cX12_besideOf 53 = .ok (.if_icmp .ne 10, 3) := dx_160 (a := 0) (b := 10) (dl_at 32 21 lb_X12_besideOf_1 rfl) (dl_at 32 22 lb_X12_besideOf_1 rfl) (dl_at 32 23 lb_X12_besideOf_1 rfl) sg16_10
theorem dX12_besideOf_63 : decode cX12_besideOf 63 = .ok (.iload 5, 2) := dx_21 (dl_at 32 31 lb_X12_besideOf_1 rfl) (dl_at 64 0 lb_X12_besideOf_2 rfl)
theorem dX12_besideOf_65 : decode cX12_besideOf 65 = .ok (.iload_n 1, 1) := dx_27 (dl_at 64 1 lb_X12_besideOf_2 rfl)
theorem dX12_besideOf_66 : decode cX12_besideOf 66 = .ok (.if_icmp .ne 10, 3) := dx_160 (a := 0) (b := 10) (dl_at 64 2 lb_X12_besideOf_2 rfl) (dl_at 64 3 lb_X12_besideOf_2 rfl) (dl_at 64 4 lb_X12_besideOf_2 rfl) sg16_10
theorem dX12_besideOf_76 : decode cX12_besideOf 76 = .ok (.iconst 0, 1) := dx_3 (dl_at 64 12 lb_X12_besideOf_2 rfl)
theorem dX12_besideOf_69 : decode cX12_besideOf 69 = .ok (.iconst 1, 1) := dx_4 (dl_at 64 5 lb_X12_besideOf_2 rfl)
theorem dX12_besideOf_70 : decode cX12_besideOf 70 = .ok (.iload 4, 2) := dx_21 (dl_at 64 6 lb_X12_besideOf_2 rfl) (dl_at 64 7 lb_X12_besideOf_2 rfl)
theorem dX12_besideOf_72 : decode cX12_besideOf 72 = .ok (.ishl, 1) := dx_120 (dl_at 64 8 lb_X12_besideOf_2 rfl)
theorem dX12_besideOf_73 : decode cX12_besideOf 73 = .ok (.goto 4, 3) := dx_167 (a := 0) (b := 4) (dl_at 64 9 lb_X12_besideOf_2 rfl) (dl_at 64 10 lb_X12_besideOf_2 rfl) (dl_at 64 11 lb_X12_besideOf_2 rfl) sg16_4
theorem dX12_besideOf_56 : decode cX12_besideOf 56 = .ok (.iconst 1, 1) := dx_4 (dl_at 32 24 lb_X12_besideOf_1 rfl)
theorem dX12_besideOf_57 : decode cX12_besideOf 57 = .ok (.iload 5, 2) := dx_21 (dl_at 32 25 lb_X12_besideOf_1 rfl) (dl_at 32 26 lb_X12_besideOf_1 rfl)
theorem dX12_besideOf_59 : decode cX12_besideOf 59 = .ok (.ishl, 1) := dx_120 (dl_at 32 27 lb_X12_besideOf_1 rfl)
theorem dX12_besideOf_60 : decode cX12_besideOf 60 = .ok (.goto 17, 3) := dx_167 (a := 0) (b := 17) (dl_at 32 28 lb_X12_besideOf_1 rfl) (dl_at 32 29 lb_X12_besideOf_1 rfl) (dl_at 32 30 lb_X12_besideOf_1 rfl) sg16_17
theorem lb_X12_letterOf_0 : dl_ck (cX12_letterOf.data.toList.drop 0) [42, 180, 0, 37, 16, 10, 27, 104, 28, 96, 46, 172] = true := by decide +kernel
theorem dX12_letterOf_0 : decode cX12_letterOf 0 = .ok (.aload_n 0, 1) := dx_42 (dl_at 0 0 lb_X12_letterOf_0 rfl)
theorem dX12_letterOf_1 : decode cX12_letterOf 1 = .ok (.getfield 37, 3) := dx_180 (a := 0) (b := 37) (dl_at 0 1 lb_X12_letterOf_0 rfl) (dl_at 0 2 lb_X12_letterOf_0 rfl) (dl_at 0 3 lb_X12_letterOf_0 rfl) rfl
theorem dX12_letterOf_4 : decode cX12_letterOf 4 = .ok (.bipush 10, 2) := dx_16 (dl_at 0 4 lb_X12_letterOf_0 rfl) (dl_at 0 5 lb_X12_letterOf_0 rfl) sg8_10
theorem dX12_letterOf_6 : decode cX12_letterOf 6 = .ok (.iload_n 1, 1) := dx_27 (dl_at 0 6 lb_X12_letterOf_0 rfl)
theorem dX12_letterOf_7 : decode cX12_letterOf 7 = .ok (.imul, 1) := dx_104 (dl_at 0 7 lb_X12_letterOf_0 rfl)
theorem dX12_letterOf_8 : decode cX12_letterOf 8 = .ok (.iload_n 2, 1) := dx_28 (dl_at 0 8 lb_X12_letterOf_0 rfl)
theorem dX12_letterOf_9 : decode cX12_letterOf 9 = .ok (.iadd, 1) := dx_96 (dl_at 0 9 lb_X12_letterOf_0 rfl)
theorem dX12_letterOf_10 : decode cX12_letterOf 10 = .ok (.iaload, 1) := dx_46 (dl_at 0 10 lb_X12_letterOf_0 rfl)
theorem dX12_letterOf_11 : decode cX12_letterOf 11 = .ok (.ireturn, 1) := dx_172 (dl_at 0 11 lb_X12_letterOf_0 rfl)
theorem lb_X12_setLetter_0 : dl_ck (cX12_setLetter.data.toList.drop 0) [42, 180, 0, 37, 16, 10, 27, 104, 28, 96, 29, 79, 177] = true := by decide +kernel
theorem dX12_setLetter_0 : decode cX12_setLetter 0 = .ok (.aload_n 0, 1) := dx_42 (dl_at 0 0 lb_X12_setLetter_0 rfl)
theorem dX12_setLetter_1 : decode cX12_setLetter 1 = .ok (.getfield 37, 3) := dx_180 (a := 0) (b := 37) (dl_at 0 1 lb_X12_setLetter_0 rfl) (dl_at 0 2 lb_X12_setLetter_0 rfl) (dl_at 0 3 lb_X12_setLetter_0 rfl) rfl
theorem dX12_setLetter_4 : decode cX12_setLetter 4 = .ok (.bipush 10, 2) := dx_16 (dl_at 0 4 lb_X12_setLetter_0 rfl) (dl_at 0 5 lb_X12_setLetter_0 rfl) sg8_10
theorem dX12_setLetter_6 : decode cX12_setLetter 6 = .ok (.iload_n 1, 1) := dx_27 (dl_at 0 6 lb_X12_setLetter_0 rfl)
theorem dX12_setLetter_7 : decode cX12_setLetter 7 = .ok (.imul, 1) := dx_104 (dl_at 0 7 lb_X12_setLetter_0 rfl)
theorem dX12_setLetter_8 : decode cX12_setLetter 8 = .ok (.iload_n 2, 1) := dx_28 (dl_at 0 8 lb_X12_setLetter_0 rfl)
theorem dX12_setLetter_9 : decode cX12_setLetter 9 = .ok (.iadd, 1) := dx_96 (dl_at 0 9 lb_X12_setLetter_0 rfl)
theorem dX12_setLetter_10 : decode cX12_setLetter 10 = .ok (.iload_n 3, 1) := dx_29 (dl_at 0 10 lb_X12_setLetter_0 rfl)
theorem dX12_setLetter_11 : decode cX12_setLetter 11 = .ok (.iastore, 1) := dx_79 (dl_at 0 11 lb_X12_setLetter_0 rfl)
theorem dX12_setLetter_12 : decode cX12_setLetter 12 = .ok (.return_, 1) := dx_177 (dl_at 0 12 lb_X12_setLetter_0 rfl)
theorem lb_X12_isRead_0 : dl_ck (cX12_isRead.data.toList.drop 0) [42, 27, 16, 9, 182, 0, 161, 4, 160, 0, 7, 4, 167, 0, 4, 3, 172] = true := by decide +kernel
theorem dX12_isRead_0 : decode cX12_isRead 0 = .ok (.aload_n 0, 1) := dx_42 (dl_at 0 0 lb_X12_isRead_0 rfl)
theorem dX12_isRead_1 : decode cX12_isRead 1 = .ok (.iload_n 1, 1) := dx_27 (dl_at 0 1 lb_X12_isRead_0 rfl)
theorem dX12_isRead_2 : decode cX12_isRead 2 = .ok (.bipush 9, 2) := dx_16 (dl_at 0 2 lb_X12_isRead_0 rfl) (dl_at 0 3 lb_X12_isRead_0 rfl) sg8_9
theorem dX12_isRead_4 : decode cX12_isRead 4 = .ok (.invokevirtual 161, 3) := dx_182 (a := 0) (b := 161) (dl_at 0 4 lb_X12_isRead_0 rfl) (dl_at 0 5 lb_X12_isRead_0 rfl) (dl_at 0 6 lb_X12_isRead_0 rfl) rfl
theorem dX12_isRead_7 : decode cX12_isRead 7 = .ok (.iconst 1, 1) := dx_4 (dl_at 0 7 lb_X12_isRead_0 rfl)
theorem dX12_isRead_8 : decode cX12_isRead 8 = .ok (.if_icmp .ne 7, 3) := dx_160 (a := 0) (b := 7) (dl_at 0 8 lb_X12_isRead_0 rfl) (dl_at 0 9 lb_X12_isRead_0 rfl) (dl_at 0 10 lb_X12_isRead_0 rfl) sg16_7
theorem dX12_isRead_15 : decode cX12_isRead 15 = .ok (.iconst 0, 1) := dx_3 (dl_at 0 15 lb_X12_isRead_0 rfl)
theorem dX12_isRead_16 : decode cX12_isRead 16 = .ok (.ireturn, 1) := dx_172 (dl_at 0 16 lb_X12_isRead_0 rfl)
theorem dX12_isRead_11 : decode cX12_isRead 11 = .ok (.iconst 1, 1) := dx_4 (dl_at 0 11 lb_X12_isRead_0 rfl)
theorem dX12_isRead_12 : decode cX12_isRead 12 = .ok (.goto 4, 3) := dx_167 (a := 0) (b := 4) (dl_at 0 12 lb_X12_isRead_0 rfl) (dl_at 0 13 lb_X12_isRead_0 rfl) (dl_at 0 14 lb_X12_isRead_0 rfl) sg16_4
theorem lb_X12_worthIn_0 : dl_ck (cX12_worthIn.data.toList.drop 0) [42, 27, 5, 182, 0, 161, 42, 27, 6, 182, 0, 161, 42, 180, 0, 145, 28, 96, 42, 27, 7, 182, 0, 161, 100, 104, 100, 62, 29, 156, 0, 7] = true := by decide +kernel
theorem lb_X12_worthIn_1 : dl_ck (cX12_worthIn.data.toList.drop 32) [3, 167, 0, 4, 29, 172] = true := by decide +kernel
theorem dX12_worthIn_0 : decode cX12_worthIn 0 = .ok (.aload_n 0, 1) := dx_42 (dl_at 0 0 lb_X12_worthIn_0 rfl)
theorem dX12_worthIn_1 : decode cX12_worthIn 1 = .ok (.iload_n 1, 1) := dx_27 (dl_at 0 1 lb_X12_worthIn_0 rfl)
theorem dX12_worthIn_2 : decode cX12_worthIn 2 = .ok (.iconst 2, 1) := dx_5 (dl_at 0 2 lb_X12_worthIn_0 rfl)
theorem dX12_worthIn_3 : decode cX12_worthIn 3 = .ok (.invokevirtual 161, 3) := dx_182 (a := 0) (b := 161) (dl_at 0 3 lb_X12_worthIn_0 rfl) (dl_at 0 4 lb_X12_worthIn_0 rfl) (dl_at 0 5 lb_X12_worthIn_0 rfl) rfl
theorem dX12_worthIn_6 : decode cX12_worthIn 6 = .ok (.aload_n 0, 1) := dx_42 (dl_at 0 6 lb_X12_worthIn_0 rfl)
theorem dX12_worthIn_7 : decode cX12_worthIn 7 = .ok (.iload_n 1, 1) := dx_27 (dl_at 0 7 lb_X12_worthIn_0 rfl)
theorem dX12_worthIn_8 : decode cX12_worthIn 8 = .ok (.iconst 3, 1) := dx_6 (dl_at 0 8 lb_X12_worthIn_0 rfl)
theorem dX12_worthIn_9 : decode cX12_worthIn 9 = .ok (.invokevirtual 161, 3) := dx_182 (a := 0) (b := 161) (dl_at 0 9 lb_X12_worthIn_0 rfl) (dl_at 0 10 lb_X12_worthIn_0 rfl) (dl_at 0 11 lb_X12_worthIn_0 rfl) rfl
theorem dX12_worthIn_12 : decode cX12_worthIn 12 = .ok (.aload_n 0, 1) := dx_42 (dl_at 0 12 lb_X12_worthIn_0 rfl)
theorem dX12_worthIn_13 : decode cX12_worthIn 13 = .ok (.getfield 145, 3) := dx_180 (a := 0) (b := 145) (dl_at 0 13 lb_X12_worthIn_0 rfl) (dl_at 0 14 lb_X12_worthIn_0 rfl) (dl_at 0 15 lb_X12_worthIn_0 rfl) rfl
theorem dX12_worthIn_16 : decode cX12_worthIn 16 = .ok (.iload_n 2, 1) := dx_28 (dl_at 0 16 lb_X12_worthIn_0 rfl)
theorem dX12_worthIn_17 : decode cX12_worthIn 17 = .ok (.iadd, 1) := dx_96 (dl_at 0 17 lb_X12_worthIn_0 rfl)
theorem dX12_worthIn_18 : decode cX12_worthIn 18 = .ok (.aload_n 0, 1) := dx_42 (dl_at 0 18 lb_X12_worthIn_0 rfl)
theorem dX12_worthIn_19 : decode cX12_worthIn 19 = .ok (.iload_n 1, 1) := dx_27 (dl_at 0 19 lb_X12_worthIn_0 rfl)
theorem dX12_worthIn_20 : decode cX12_worthIn 20 = .ok (.iconst 4, 1) := dx_7 (dl_at 0 20 lb_X12_worthIn_0 rfl)
theorem dX12_worthIn_21 : decode cX12_worthIn 21 = .ok (.invokevirtual 161, 3) := dx_182 (a := 0) (b := 161) (dl_at 0 21 lb_X12_worthIn_0 rfl) (dl_at 0 22 lb_X12_worthIn_0 rfl) (dl_at 0 23 lb_X12_worthIn_0 rfl) rfl
theorem dX12_worthIn_24 : decode cX12_worthIn 24 = .ok (.isub, 1) := dx_100 (dl_at 0 24 lb_X12_worthIn_0 rfl)
theorem dX12_worthIn_25 : decode cX12_worthIn 25 = .ok (.imul, 1) := dx_104 (dl_at 0 25 lb_X12_worthIn_0 rfl)
theorem dX12_worthIn_26 : decode cX12_worthIn 26 = .ok (.isub, 1) := dx_100 (dl_at 0 26 lb_X12_worthIn_0 rfl)
theorem dX12_worthIn_27 : decode cX12_worthIn 27 = .ok (.istore_n 3, 1) := dx_62 (dl_at 0 27 lb_X12_worthIn_0 rfl)
theorem dX12_worthIn_28 : decode cX12_worthIn 28 = .ok (.iload_n 3, 1) := dx_29 (dl_at 0 28 lb_X12_worthIn_0 rfl)
theorem dX12_worthIn_29 : decode cX12_worthIn 29 = .ok (.ifCond .ge 7, 3) := dx_156 (a := 0) (b := 7) (dl_at 0 29 lb_X12_worthIn_0 rfl) (dl_at 0 30 lb_X12_worthIn_0 rfl) (dl_at 0 31 lb_X12_worthIn_0 rfl) sg16_7
theorem dX12_worthIn_36 : decode cX12_worthIn 36 = .ok (.iload_n 3, 1) := dx_29 (dl_at 32 4 lb_X12_worthIn_1 rfl)
theorem dX12_worthIn_37 : decode cX12_worthIn 37 = .ok (.ireturn, 1) := dx_172 (dl_at 32 5 lb_X12_worthIn_1 rfl)
theorem dX12_worthIn_32 : decode cX12_worthIn 32 = .ok (.iconst 0, 1) := dx_3 (dl_at 32 0 lb_X12_worthIn_1 rfl)
theorem dX12_worthIn_33 : decode cX12_worthIn 33 = .ok (.goto 4, 3) := dx_167 (a := 0) (b := 4) (dl_at 32 1 lb_X12_worthIn_1 rfl) (dl_at 32 2 lb_X12_worthIn_1 rfl) (dl_at 32 3 lb_X12_worthIn_1 rfl) sg16_4
theorem lb_X12_bearerOf_0 : dl_ck (cX12_bearerOf.data.toList.drop 0) [3, 62, 3, 54, 4, 21, 4, 42, 180, 0, 148, 162, 0, 37, 29, 42, 21, 4, 8, 182, 0, 161, 27, 160, 0, 16, 42, 21, 4, 182, 0, 164] = true := by decide +kernel
theorem lb_X12_bearerOf_1 : dl_ck (cX12_bearerOf.data.toList.drop 32) [154, 0, 7, 4, 167, 0, 4, 3, 96, 62, 132, 4, 1, 167, 255, 216, 28, 154, 0, 12, 42, 180, 0, 28, 27, 46, 167, 0, 34, 28, 4, 160] = true := by decide +kernel
theorem lb_X12_bearerOf_2 : dl_ck (cX12_bearerOf.data.toList.drop 64) [0, 12, 42, 180, 0, 31, 27, 46, 167, 0, 20, 28, 5, 160, 0, 14, 42, 27, 182, 0, 167, 184, 0, 170, 167, 0, 4, 29, 172] = true := by decide +kernel
theorem dX12_bearerOf_0 : decode cX12_bearerOf 0 = .ok (.iconst 0, 1) := dx_3 (dl_at 0 0 lb_X12_bearerOf_0 rfl)
theorem dX12_bearerOf_1 : decode cX12_bearerOf 1 = .ok (.istore_n 3, 1) := dx_62 (dl_at 0 1 lb_X12_bearerOf_0 rfl)
theorem dX12_bearerOf_2 : decode cX12_bearerOf 2 = .ok (.iconst 0, 1) := dx_3 (dl_at 0 2 lb_X12_bearerOf_0 rfl)
theorem dX12_bearerOf_3 : decode cX12_bearerOf 3 = .ok (.istore 4, 2) := dx_54 (dl_at 0 3 lb_X12_bearerOf_0 rfl) (dl_at 0 4 lb_X12_bearerOf_0 rfl)
theorem dX12_bearerOf_5 : decode cX12_bearerOf 5 = .ok (.iload 4, 2) := dx_21 (dl_at 0 5 lb_X12_bearerOf_0 rfl) (dl_at 0 6 lb_X12_bearerOf_0 rfl)
theorem dX12_bearerOf_7 : decode cX12_bearerOf 7 = .ok (.aload_n 0, 1) := dx_42 (dl_at 0 7 lb_X12_bearerOf_0 rfl)
theorem dX12_bearerOf_8 : decode cX12_bearerOf 8 = .ok (.getfield 148, 3) := dx_180 (a := 0) (b := 148) (dl_at 0 8 lb_X12_bearerOf_0 rfl) (dl_at 0 9 lb_X12_bearerOf_0 rfl) (dl_at 0 10 lb_X12_bearerOf_0 rfl) rfl
theorem dX12_bearerOf_11 : decode cX12_bearerOf 11 = .ok (.if_icmp .ge 37, 3) := dx_162 (a := 0) (b := 37) (dl_at 0 11 lb_X12_bearerOf_0 rfl) (dl_at 0 12 lb_X12_bearerOf_0 rfl) (dl_at 0 13 lb_X12_bearerOf_0 rfl) sg16_37
theorem dX12_bearerOf_48 : decode cX12_bearerOf 48 = .ok (.iload_n 2, 1) := dx_28 (dl_at 32 16 lb_X12_bearerOf_1 rfl)
theorem dX12_bearerOf_49 : decode cX12_bearerOf 49 = .ok (.ifCond .ne 12, 3) := dx_154 (a := 0) (b := 12) (dl_at 32 17 lb_X12_bearerOf_1 rfl) (dl_at 32 18 lb_X12_bearerOf_1 rfl) (dl_at 32 19 lb_X12_bearerOf_1 rfl) sg16_12
theorem dX12_bearerOf_61 : decode cX12_bearerOf 61 = .ok (.iload_n 2, 1) := dx_28 (dl_at 32 29 lb_X12_bearerOf_1 rfl)
theorem dX12_bearerOf_62 : decode cX12_bearerOf 62 = .ok (.iconst 1, 1) := dx_4 (dl_at 32 30 lb_X12_bearerOf_1 rfl)
theorem dX12_bearerOf_63 : decode cX12_bearerOf 63 = .ok (.if_icmp .ne 12, 3) := dx_160 (a := 0) (b := 12) (dl_at 32 31 lb_X12_bearerOf_1 rfl) (dl_at 64 0 lb_X12_bearerOf_2 rfl) (dl_at 64 1 lb_X12_bearerOf_2 rfl) sg16_12
theorem dX12_bearerOf_75 : decode cX12_bearerOf 75 = .ok (.iload_n 2, 1) := dx_28 (dl_at 64 11 lb_X12_bearerOf_2 rfl)
theorem dX12_bearerOf_76 : decode cX12_bearerOf 76 = .ok (.iconst 2, 1) := dx_5 (dl_at 64 12 lb_X12_bearerOf_2 rfl)
theorem dX12_bearerOf_77 : decode cX12_bearerOf 77 = .ok (.if_icmp .ne 14, 3) := dx_160 (a := 0) (b := 14) (dl_at 64 13 lb_X12_bearerOf_2 rfl) (dl_at 64 14 lb_X12_bearerOf_2 rfl) (dl_at 64 15 lb_X12_bearerOf_2 rfl) sg16_14
theorem dX12_bearerOf_91 : decode cX12_bearerOf 91 = .ok (.iload_n 3, 1) := dx_29 (dl_at 64 27 lb_X12_bearerOf_2 rfl)
theorem dX12_bearerOf_92 : decode cX12_bearerOf 92 = .ok (.ireturn, 1) := dx_172 (dl_at 64 28 lb_X12_bearerOf_2 rfl)
theorem dX12_bearerOf_80 : decode cX12_bearerOf 80 = .ok (.aload_n 0, 1) := dx_42 (dl_at 64 16 lb_X12_bearerOf_2 rfl)
theorem dX12_bearerOf_81 : decode cX12_bearerOf 81 = .ok (.iload_n 1, 1) := dx_27 (dl_at 64 17 lb_X12_bearerOf_2 rfl)
theorem dX12_bearerOf_82 : decode cX12_bearerOf 82 = .ok (.invokevirtual 167, 3) := dx_182 (a := 0) (b := 167) (dl_at 64 18 lb_X12_bearerOf_2 rfl) (dl_at 64 19 lb_X12_bearerOf_2 rfl) (dl_at 64 20 lb_X12_bearerOf_2 rfl) rfl
theorem dX12_bearerOf_85 : decode cX12_bearerOf 85 = .ok (.invokestatic 170, 3) := dx_184 (a := 0) (b := 170) (dl_at 64 21 lb_X12_bearerOf_2 rfl) (dl_at 64 22 lb_X12_bearerOf_2 rfl) (dl_at 64 23 lb_X12_bearerOf_2 rfl) rfl
theorem dX12_bearerOf_88 : decode cX12_bearerOf 88 = .ok (.goto 4, 3) := dx_167 (a := 0) (b := 4) (dl_at 64 24 lb_X12_bearerOf_2 rfl) (dl_at 64 25 lb_X12_bearerOf_2 rfl) (dl_at 64 26 lb_X12_bearerOf_2 rfl) sg16_4
theorem dX12_bearerOf_66 : decode cX12_bearerOf 66 = .ok (.aload_n 0, 1) := dx_42 (dl_at 64 2 lb_X12_bearerOf_2 rfl)
theorem dX12_bearerOf_67 : decode cX12_bearerOf 67 = .ok (.getfield 31, 3) := dx_180 (a := 0) (b := 31) (dl_at 64 3 lb_X12_bearerOf_2 rfl) (dl_at 64 4 lb_X12_bearerOf_2 rfl) (dl_at 64 5 lb_X12_bearerOf_2 rfl) rfl
theorem dX12_bearerOf_70 : decode cX12_bearerOf 70 = .ok (.iload_n 1, 1) := dx_27 (dl_at 64 6 lb_X12_bearerOf_2 rfl)
theorem dX12_bearerOf_71 : decode cX12_bearerOf 71 = .ok (.iaload, 1) := dx_46 (dl_at 64 7 lb_X12_bearerOf_2 rfl)
theorem dX12_bearerOf_72 : decode cX12_bearerOf 72 = .ok (.goto 20, 3) := dx_167 (a := 0) (b := 20) (dl_at 64 8 lb_X12_bearerOf_2 rfl) (dl_at 64 9 lb_X12_bearerOf_2 rfl) (dl_at 64 10 lb_X12_bearerOf_2 rfl) sg16_20
theorem dX12_bearerOf_52 : decode cX12_bearerOf 52 = .ok (.aload_n 0, 1) := dx_42 (dl_at 32 20 lb_X12_bearerOf_1 rfl)
theorem dX12_bearerOf_53 : decode cX12_bearerOf 53 = .ok (.getfield 28, 3) := dx_180 (a := 0) (b := 28) (dl_at 32 21 lb_X12_bearerOf_1 rfl) (dl_at 32 22 lb_X12_bearerOf_1 rfl) (dl_at 32 23 lb_X12_bearerOf_1 rfl) rfl
theorem dX12_bearerOf_56 : decode cX12_bearerOf 56 = .ok (.iload_n 1, 1) := dx_27 (dl_at 32 24 lb_X12_bearerOf_1 rfl)
theorem dX12_bearerOf_57 : decode cX12_bearerOf 57 = .ok (.iaload, 1) := dx_46 (dl_at 32 25 lb_X12_bearerOf_1 rfl)
theorem dX12_bearerOf_58 : decode cX12_bearerOf 58 = .ok (.goto 34, 3) := dx_167 (a := 0) (b := 34) (dl_at 32 26 lb_X12_bearerOf_1 rfl) (dl_at 32 27 lb_X12_bearerOf_1 rfl) (dl_at 32 28 lb_X12_bearerOf_1 rfl) sg16_34
theorem dX12_bearerOf_14 : decode cX12_bearerOf 14 = .ok (.iload_n 3, 1) := dx_29 (dl_at 0 14 lb_X12_bearerOf_0 rfl)
theorem dX12_bearerOf_15 : decode cX12_bearerOf 15 = .ok (.aload_n 0, 1) := dx_42 (dl_at 0 15 lb_X12_bearerOf_0 rfl)
theorem dX12_bearerOf_16 : decode cX12_bearerOf 16 = .ok (.iload 4, 2) := dx_21 (dl_at 0 16 lb_X12_bearerOf_0 rfl) (dl_at 0 17 lb_X12_bearerOf_0 rfl)
theorem dX12_bearerOf_18 : decode cX12_bearerOf 18 = .ok (.iconst 5, 1) := dx_8 (dl_at 0 18 lb_X12_bearerOf_0 rfl)
theorem dX12_bearerOf_19 : decode cX12_bearerOf 19 = .ok (.invokevirtual 161, 3) := dx_182 (a := 0) (b := 161) (dl_at 0 19 lb_X12_bearerOf_0 rfl) (dl_at 0 20 lb_X12_bearerOf_0 rfl) (dl_at 0 21 lb_X12_bearerOf_0 rfl) rfl
theorem dX12_bearerOf_22 : decode cX12_bearerOf 22 = .ok (.iload_n 1, 1) := dx_27 (dl_at 0 22 lb_X12_bearerOf_0 rfl)
theorem dX12_bearerOf_23 : decode cX12_bearerOf 23 = .ok (.if_icmp .ne 16, 3) := dx_160 (a := 0) (b := 16) (dl_at 0 23 lb_X12_bearerOf_0 rfl) (dl_at 0 24 lb_X12_bearerOf_0 rfl) (dl_at 0 25 lb_X12_bearerOf_0 rfl) sg16_16
theorem dX12_bearerOf_39 : decode cX12_bearerOf 39 = .ok (.iconst 0, 1) := dx_3 (dl_at 32 7 lb_X12_bearerOf_1 rfl)
theorem dX12_bearerOf_40 : decode cX12_bearerOf 40 = .ok (.iadd, 1) := dx_96 (dl_at 32 8 lb_X12_bearerOf_1 rfl)
theorem dX12_bearerOf_41 : decode cX12_bearerOf 41 = .ok (.istore_n 3, 1) := dx_62 (dl_at 32 9 lb_X12_bearerOf_1 rfl)
theorem dX12_bearerOf_42 : decode cX12_bearerOf 42 = .ok (.iinc 4 1, 3) := dx_132 (dl_at 32 10 lb_X12_bearerOf_1 rfl) (dl_at 32 11 lb_X12_bearerOf_1 rfl) (dl_at 32 12 lb_X12_bearerOf_1 rfl) sg8_1
theorem dX12_bearerOf_45 : decode cX12_bearerOf 45 = .ok (.goto (-40), 3) := dx_167 (a := 255) (b := 216) (dl_at 32 13 lb_X12_bearerOf_1 rfl) (dl_at 32 14 lb_X12_bearerOf_1 rfl) (dl_at 32 15 lb_X12_bearerOf_1 rfl) sg16_65496
theorem dX12_bearerOf_26 : decode cX12_bearerOf 26 = .ok (.aload_n 0, 1) := dx_42 (dl_at 0 26 lb_X12_bearerOf_0 rfl)
theorem dX12_bearerOf_27 : decode cX12_bearerOf 27 = .ok (.iload 4, 2) := dx_21 (dl_at 0 27 lb_X12_bearerOf_0 rfl) (dl_at 0 28 lb_X12_bearerOf_0 rfl)
theorem dX12_bearerOf_29 : decode cX12_bearerOf 29 = .ok (.invokevirtual 164, 3) := dx_182 (a := 0) (b := 164) (dl_at 0 29 lb_X12_bearerOf_0 rfl) (dl_at 0 30 lb_X12_bearerOf_0 rfl) (dl_at 0 31 lb_X12_bearerOf_0 rfl) rfl
theorem dX12_bearerOf_32 : decode cX12_bearerOf 32 = .ok (.ifCond .ne 7, 3) := dx_154 (a := 0) (b := 7) (dl_at 32 0 lb_X12_bearerOf_1 rfl) (dl_at 32 1 lb_X12_bearerOf_1 rfl) (dl_at 32 2 lb_X12_bearerOf_1 rfl) sg16_7
theorem dX12_bearerOf_35 : decode cX12_bearerOf 35 = .ok (.iconst 1, 1) := dx_4 (dl_at 32 3 lb_X12_bearerOf_1 rfl)
theorem dX12_bearerOf_36 : decode cX12_bearerOf 36 = .ok (.goto 4, 3) := dx_167 (a := 0) (b := 4) (dl_at 32 4 lb_X12_bearerOf_1 rfl) (dl_at 32 5 lb_X12_bearerOf_1 rfl) (dl_at 32 6 lb_X12_bearerOf_1 rfl) sg16_4
def F_sm_isOne (mu : Nat → Nat → Int32) (vx : Int32) : Int32 :=
  LETV (mu 0 8 : Int32) fun y1 =>
  LETV (y1 - 1 : Int32) fun t2 =>
  if F_sm_in (vx : Int32) (0 : Int32) (t2 : Int32) = 1 then (
    (1 : Int32)
  ) else (
    (0 : Int32)
  )
def F_sm_areTwo (mu : Nat → Nat → Int32) (vx : Int32) (vy : Int32) : Int32 :=
  if F_sm_isOne mu (vx : Int32) = 1 then (
    if F_sm_isOne mu (vy : Int32) = 1 then (
      if vx = vy then (
        (0 : Int32)
      ) else (
        (1 : Int32)
      )
    ) else (
      (0 : Int32)
    )
  ) else (
    (0 : Int32)
  )
def F_sm_isA (mu : Nat → Nat → Int32) (vx : Int32) (vd : Int32) : Int32 :=
  LETV (mu 7 vx.toNatClampNeg : Int32) fun y1 =>
  if y1 = vd then (
    (1 : Int32)
  ) else (
    if vd = (1 : Int32) then (
      if y1 = (4 : Int32) then (
        (1 : Int32)
      ) else (
        (0 : Int32)
      )
    ) else (
      if vd = (2 : Int32) then (
        if y1 = (5 : Int32) then (
          (1 : Int32)
        ) else (
          (0 : Int32)
        )
      ) else (
        (0 : Int32)
      )
    )
  )
def F_sm_asksOf (mu : Nat → Nat → Int32) (vx : Int32) (vp : Int32) : Int32 :=
  LETV (mu 7 vx.toNatClampNeg : Int32) fun y1 =>
  if (y1).toInt < 1 ∨ 5 < (y1).toInt then (
    LETV (vp + 1 : Int32) fun t3 =>
    (t3 : Int32)
  ) else (
    if (y1).toInt = 1 then (
      LETV (vp + 3 : Int32) fun t4 =>
      (t4 : Int32)
    ) else (
      if (y1).toInt = 2 then (
        (vp : Int32)
      ) else (
        if (y1).toInt = 3 then (
          LETV (vp + 1 : Int32) fun t5 =>
          (t5 : Int32)
        ) else (
          if (y1).toInt = 4 then (
            LETV (vp + 3 : Int32) fun t6 =>
            LETV (2 * t6 : Int32) fun t7 =>
            (t7 : Int32)
          ) else (
            (0 : Int32)
          )
        )
      )
    )
  )
def L_sm_besideOf_4_0 (mu : Nat → Nat → Int32) (vx : Int32) : Nat → (Int32) → (Int32) → Int32
  | 0, v2_4, v3_4 => 0
  | n + 1, v2_4, v3_4 =>
    LETV (mu 0 11 : Int32) fun y1 =>
    if v3_4 ≥ y1 then (
      (v2_4 : Int32)
    ) else (
      LETV (2 * v3_4 : Int32) fun t3 =>
      LETV (mu 9 t3.toNatClampNeg : Int32) fun y4 =>
      LETV (2 * v3_4 : Int32) fun t5 =>
      LETV (t5 + 1 : Int32) fun t6 =>
      LETV (mu 9 t6.toNatClampNeg : Int32) fun y7 =>
      LETV (mu 0 13 : Int32) fun y8 =>
      if F_sm_has (y8 : Int32) (v3_4 : Int32) = 1 then (
        LETV (v2_4 ||| 0 : Int32) fun t10 =>
        LETV ((v3_4 + 1) : Int32) fun w11 =>
        L_sm_besideOf_4_0 mu vx n (t10 : Int32) (w11 : Int32)
      ) else (
        if y4 = vx then (
          LETV (1 <<< (y7 &&& 31) : Int32) fun t19 =>
          LETV (v2_4 ||| t19 : Int32) fun t20 =>
          LETV ((v3_4 + 1) : Int32) fun w21 =>
          L_sm_besideOf_4_0 mu vx n (t20 : Int32) (w21 : Int32)
        ) else (
          if y7 = vx then (
            LETV (1 <<< (y4 &&& 31) : Int32) fun t16 =>
            LETV (v2_4 ||| t16 : Int32) fun t17 =>
            LETV ((v3_4 + 1) : Int32) fun w18 =>
            L_sm_besideOf_4_0 mu vx n (t17 : Int32) (w18 : Int32)
          ) else (
            LETV (v2_4 ||| 0 : Int32) fun t14 =>
            LETV ((v3_4 + 1) : Int32) fun w15 =>
            L_sm_besideOf_4_0 mu vx n (t14 : Int32) (w15 : Int32)
          )
        )
      )
    )
def F_sm_besideOf (mu : Nat → Nat → Int32) (vx : Int32) : Int32 :=
  L_sm_besideOf_4_0 mu vx 15 (0 : Int32) (0 : Int32)
def F_sm_letterOf5 (mu : Nat → Nat → Int32) (vk : Int32) : Int32 :=
  LETV (10 * vk : Int32) fun t1 =>
  LETV (t1 + 5 : Int32) fun t2 =>
  LETV (mu 10 t2.toNatClampNeg : Int32) fun y4 =>
  (y4 : Int32)
def F_sm_letterOf (mu : Nat → Nat → Int32) (vk : Int32) (vw : Int32) : Int32 :=
  LETV (10 * vk : Int32) fun t1 =>
  LETV (t1 + vw : Int32) fun t2 =>
  LETV (mu 10 t2.toNatClampNeg : Int32) fun y4 =>
  (y4 : Int32)
def F_sm_setLetter0 (mu : Nat → Nat → Int32) (vk : Int32) (vv : Int32) : Nat → Nat → Int32 :=
  LETV (10 * vk : Int32) fun t1 =>
  LETV (t1 + 0 : Int32) fun t2 =>
  LETV (va_up mu 10 (upd (mu 10) t2.toNatClampNeg vv) : Nat → Nat → Int32) fun nu4 =>
  nu4
def F_sm_setLetter1 (mu : Nat → Nat → Int32) (vk : Int32) (vv : Int32) : Nat → Nat → Int32 :=
  LETV (10 * vk : Int32) fun t1 =>
  LETV (t1 + 1 : Int32) fun t2 =>
  LETV (va_up mu 10 (upd (mu 10) t2.toNatClampNeg vv) : Nat → Nat → Int32) fun nu4 =>
  nu4
def F_sm_setLetter2 (mu : Nat → Nat → Int32) (vk : Int32) (vv : Int32) : Nat → Nat → Int32 :=
  LETV (10 * vk : Int32) fun t1 =>
  LETV (t1 + 2 : Int32) fun t2 =>
  LETV (va_up mu 10 (upd (mu 10) t2.toNatClampNeg vv) : Nat → Nat → Int32) fun nu4 =>
  nu4
def F_sm_setLetter3 (mu : Nat → Nat → Int32) (vk : Int32) (vv : Int32) : Nat → Nat → Int32 :=
  LETV (10 * vk : Int32) fun t1 =>
  LETV (t1 + 3 : Int32) fun t2 =>
  LETV (va_up mu 10 (upd (mu 10) t2.toNatClampNeg vv) : Nat → Nat → Int32) fun nu4 =>
  nu4
def F_sm_setLetter4 (mu : Nat → Nat → Int32) (vk : Int32) (vv : Int32) : Nat → Nat → Int32 :=
  LETV (10 * vk : Int32) fun t1 =>
  LETV (t1 + 4 : Int32) fun t2 =>
  LETV (va_up mu 10 (upd (mu 10) t2.toNatClampNeg vv) : Nat → Nat → Int32) fun nu4 =>
  nu4
def F_sm_setLetter5 (mu : Nat → Nat → Int32) (vk : Int32) (vv : Int32) : Nat → Nat → Int32 :=
  LETV (10 * vk : Int32) fun t1 =>
  LETV (t1 + 5 : Int32) fun t2 =>
  LETV (va_up mu 10 (upd (mu 10) t2.toNatClampNeg vv) : Nat → Nat → Int32) fun nu4 =>
  nu4
def F_sm_setLetter6 (mu : Nat → Nat → Int32) (vk : Int32) (vv : Int32) : Nat → Nat → Int32 :=
  LETV (10 * vk : Int32) fun t1 =>
  LETV (t1 + 6 : Int32) fun t2 =>
  LETV (va_up mu 10 (upd (mu 10) t2.toNatClampNeg vv) : Nat → Nat → Int32) fun nu4 =>
  nu4
def F_sm_setLetter7 (mu : Nat → Nat → Int32) (vk : Int32) (vv : Int32) : Nat → Nat → Int32 :=
  LETV (10 * vk : Int32) fun t1 =>
  LETV (t1 + 7 : Int32) fun t2 =>
  LETV (va_up mu 10 (upd (mu 10) t2.toNatClampNeg vv) : Nat → Nat → Int32) fun nu4 =>
  nu4
def F_sm_setLetter8 (mu : Nat → Nat → Int32) (vk : Int32) (vv : Int32) : Nat → Nat → Int32 :=
  LETV (10 * vk : Int32) fun t1 =>
  LETV (t1 + 8 : Int32) fun t2 =>
  LETV (va_up mu 10 (upd (mu 10) t2.toNatClampNeg vv) : Nat → Nat → Int32) fun nu4 =>
  nu4
def F_sm_setLetter9 (mu : Nat → Nat → Int32) (vk : Int32) (vv : Int32) : Nat → Nat → Int32 :=
  LETV (10 * vk : Int32) fun t1 =>
  LETV (t1 + 9 : Int32) fun t2 =>
  LETV (va_up mu 10 (upd (mu 10) t2.toNatClampNeg vv) : Nat → Nat → Int32) fun nu4 =>
  nu4
def F_sm_isRead (mu : Nat → Nat → Int32) (vk : Int32) : Int32 :=
  LETV (F_sm_letterOf mu (vk : Int32) (9 : Int32) : Int32) fun r1 =>
  if r1 = (1 : Int32) then (
    (1 : Int32)
  ) else (
    (0 : Int32)
  )
def F_sm_worthIn (mu : Nat → Nat → Int32) (vk : Int32) (vd : Int32) : Int32 :=
  LETV (F_sm_letterOf mu (vk : Int32) (2 : Int32) : Int32) fun r1 =>
  LETV (F_sm_letterOf mu (vk : Int32) (3 : Int32) : Int32) fun r2 =>
  LETV (mu 0 14 : Int32) fun y3 =>
  LETV (y3 + vd : Int32) fun t4 =>
  LETV (F_sm_letterOf mu (vk : Int32) (4 : Int32) : Int32) fun r5 =>
  LETV (t4 - r5 : Int32) fun t6 =>
  LETV (r2 * t6 : Int32) fun t7 =>
  LETV (r1 - t7 : Int32) fun t8 =>
  if t8 ≥ (0 : Int32) then (
    (t8 : Int32)
  ) else (
    (0 : Int32)
  )
def L_sm_bearerOf_5_0 (mu : Nat → Nat → Int32) (vw : Int32) (vx : Int32) : Nat → (Int32) → (Int32) → Int32
  | 0, v3_5, v4_5 => 0
  | n + 1, v3_5, v4_5 =>
    LETV (mu 0 15 : Int32) fun y1 =>
    if v4_5 ≥ y1 then (
      if vw = (0 : Int32) then (
        LETV (mu 7 vx.toNatClampNeg : Int32) fun y9 =>
        (y9 : Int32)
      ) else (
        if vw = (1 : Int32) then (
          LETV (mu 8 vx.toNatClampNeg : Int32) fun y8 =>
          (y8 : Int32)
        ) else (
          if vw = (2 : Int32) then (
            LETV (F_sm_besideOf mu (vx : Int32) : Int32) fun r6 =>
            LETV (F_sm_sizeOf (r6 : Int32) : Int32) fun r7 =>
            (r7 : Int32)
          ) else (
            (v3_5 : Int32)
          )
        )
      )
    ) else (
      LETV (F_sm_letterOf5 mu (v4_5 : Int32) : Int32) fun r10 =>
      if r10 = vx then (
        LETV (F_sm_isRead mu (v4_5 : Int32) : Int32) fun r14 =>
        if r14 = (0 : Int32) then (
          LETV (v3_5 + 1 : Int32) fun t18 =>
          LETV ((v4_5 + 1) : Int32) fun w19 =>
          L_sm_bearerOf_5_0 mu vw vx n (t18 : Int32) (w19 : Int32)
        ) else (
          LETV (v3_5 + 0 : Int32) fun t16 =>
          LETV ((v4_5 + 1) : Int32) fun w17 =>
          L_sm_bearerOf_5_0 mu vw vx n (t16 : Int32) (w17 : Int32)
        )
      ) else (
        LETV (v3_5 + 0 : Int32) fun t12 =>
        LETV ((v4_5 + 1) : Int32) fun w13 =>
        L_sm_bearerOf_5_0 mu vw vx n (t12 : Int32) (w13 : Int32)
      )
    )
def F_sm_bearerOf (mu : Nat → Nat → Int32) (vx : Int32) (vw : Int32) : Int32 :=
  L_sm_bearerOf_5_0 mu vw vx 7 (0 : Int32) (0 : Int32)
