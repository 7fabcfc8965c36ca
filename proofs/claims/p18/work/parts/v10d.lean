-- ===== the law's bytes in pieces, and an instruction out of its bytes =====
def LB (c : ByteArray) (i n : Nat) : Prop := ∃ h : i < c.size, (c[i]'h).toNat = n
theorem bu1 {c : ByteArray} {p n : Nat} {β : Type} {K : Nat → Decoder β} (h : LB c p n) : ((Reader.u1 : Decoder Nat) >>= K) c p = K n c (p + 1) := by
  obtain ⟨hs, hb⟩ := h
  have e : (Reader.u1 : Decoder Nat) c p = Except.ok (n, p + 1) := by
    unfold Reader.u1
    show (dite (p < c.size) (fun h => (do set (p + 1); pure (c[p]'h).toNat : Decoder Nat)) (fun _ => throw (HasTruncated.truncated p)) : Decoder Nat) c p = _
    rw [dif_pos hs]
    show Except.ok ((c[p]'hs).toNat, p + 1) = _
    rw [hb]
  show Except.bind ((Reader.u1 : Decoder Nat) c p) (fun r => K r.1 c r.2) = _
  rw [e]
  rfl
theorem ru2 {c : ByteArray} {p a b : Nat} (h1 : LB c p a) (h2 : LB c (p + 1) b) : (Reader.u2 : Decoder Nat) c p = Except.ok (a * 256 + b, p + 2) := by
  refine (bu1 h1).trans ?_
  refine (bu1 h2).trans ?_
  rfl
theorem bu2 {c : ByteArray} {p a b : Nat} {β : Type} {K : Nat → Decoder β} (h1 : LB c p a) (h2 : LB c (p + 1) b) : ((Reader.u2 : Decoder Nat) >>= K) c p = K (a * 256 + b) c (p + 2) := by
  show Except.bind ((Reader.u2 : Decoder Nat) c p) (fun r => K r.1 c r.2) = _
  rw [ru2 h1 h2]
  rfl
theorem bs2 {c : ByteArray} {p a b : Nat} {β : Type} {K : Int → Decoder β} (h1 : LB c p a) (h2 : LB c (p + 1) b) : ((Reader.s2 : Decoder Int) >>= K) c p = K (Reader.signed 16 (a * 256 + b)) c (p + 2) := by
  have e : (Reader.s2 : Decoder Int) c p = Except.ok (Reader.signed 16 (a * 256 + b), p + 2) := by
    show Except.bind ((Reader.u2 : Decoder Nat) c p) (fun r => Except.ok (Reader.signed 16 r.1, r.2)) = _
    rw [ru2 h1 h2]
    rfl
  show Except.bind ((Reader.s2 : Decoder Int) c p) (fun r => K r.1 c r.2) = _
  rw [e]
  rfl
theorem dc_of {c : ByteArray} {pc n : Nat} {i : Instr} (h : Decoder.instr pc c pc = Except.ok (i, pc + n)) : decode c pc = .ok (i, n) := by
  show Except.bind (Decoder.instr pc c pc) (fun r => Except.ok (r.1, r.2 - pc)) = _
  rw [h]
  show Except.ok (i, pc + n - pc) = _
  rw [Nat.add_sub_cancel_left]
set_option maxRecDepth 100000 in
theorem dc_aload0 {c : ByteArray} {pc : Nat} (h : LB c pc 42) : decode c pc = .ok (.aload_n 0, 1) := dc_of ((bu1 h).trans rfl)
set_option maxRecDepth 100000 in
theorem dc_aload1 {c : ByteArray} {pc : Nat} (h : LB c pc 43) : decode c pc = .ok (.aload_n 1, 1) := dc_of ((bu1 h).trans rfl)
set_option maxRecDepth 100000 in
theorem dc_aload2 {c : ByteArray} {pc : Nat} (h : LB c pc 44) : decode c pc = .ok (.aload_n 2, 1) := dc_of ((bu1 h).trans rfl)
set_option maxRecDepth 100000 in
theorem dc_iload3 {c : ByteArray} {pc : Nat} (h : LB c pc 29) : decode c pc = .ok (.iload_n 3, 1) := dc_of ((bu1 h).trans rfl)
set_option maxRecDepth 100000 in
theorem dc_iaload {c : ByteArray} {pc : Nat} (h : LB c pc 46) : decode c pc = .ok (.iaload, 1) := dc_of ((bu1 h).trans rfl)
set_option maxRecDepth 100000 in
theorem dc_iadd {c : ByteArray} {pc : Nat} (h : LB c pc 96) : decode c pc = .ok (.iadd, 1) := dc_of ((bu1 h).trans rfl)
set_option maxRecDepth 100000 in
theorem dc_pop {c : ByteArray} {pc : Nat} (h : LB c pc 87) : decode c pc = .ok (.pop, 1) := dc_of ((bu1 h).trans rfl)
set_option maxRecDepth 100000 in
theorem dc_pop2 {c : ByteArray} {pc : Nat} (h : LB c pc 88) : decode c pc = .ok (.pop2, 1) := dc_of ((bu1 h).trans rfl)
set_option maxRecDepth 100000 in
theorem dc_iconst0 {c : ByteArray} {pc : Nat} (h : LB c pc 3) : decode c pc = .ok (.iconst 0, 1) := dc_of ((bu1 h).trans rfl)
set_option maxRecDepth 100000 in
theorem dc_iconst1 {c : ByteArray} {pc : Nat} (h : LB c pc 4) : decode c pc = .ok (.iconst 1, 1) := dc_of ((bu1 h).trans rfl)
set_option maxRecDepth 100000 in
theorem dc_iconst2 {c : ByteArray} {pc : Nat} (h : LB c pc 5) : decode c pc = .ok (.iconst 2, 1) := dc_of ((bu1 h).trans rfl)
set_option maxRecDepth 100000 in
theorem dc_iconst3 {c : ByteArray} {pc : Nat} (h : LB c pc 6) : decode c pc = .ok (.iconst 3, 1) := dc_of ((bu1 h).trans rfl)
set_option maxRecDepth 100000 in
theorem dc_iconst4 {c : ByteArray} {pc : Nat} (h : LB c pc 7) : decode c pc = .ok (.iconst 4, 1) := dc_of ((bu1 h).trans rfl)
set_option maxRecDepth 100000 in
theorem dc_iconst5 {c : ByteArray} {pc : Nat} (h : LB c pc 8) : decode c pc = .ok (.iconst 5, 1) := dc_of ((bu1 h).trans rfl)
set_option maxRecDepth 100000 in
theorem dc_virt {c : ByteArray} {pc a b : Nat} (h : LB c pc 182) (h1 : LB c (pc + 1) a) (h2 : LB c (pc + 2) b) : decode c pc = .ok (.invokevirtual (a * 256 + b), 3) := dc_of ((bu1 h).trans ((bu2 h1 h2).trans rfl))
set_option maxRecDepth 100000 in
theorem dc_goto {c : ByteArray} {pc a b : Nat} {k : Int} (h : LB c pc 167) (h1 : LB c (pc + 1) a) (h2 : LB c (pc + 2) b) (hk : Reader.signed 16 (a * 256 + b) = k) : decode c pc = .ok (.goto k, 3) := dc_of ((bu1 h).trans ((bs2 h1 h2).trans (by rw [hk]; rfl)))
theorem LB_of {c : ByteArray} {i : Nat} {b : UInt8} (h : c.data.toList[i]? = some b) : LB c i b.toNat := by
  obtain ⟨h1, h2⟩ := List.getElem?_eq_some_iff.mp h
  have hs : i < c.size := by
    show i < c.data.size
    rw [← Array.length_toList]
    exact h1
  refine ⟨hs, ?_⟩
  rw [← h2]
  rfl
def dl_ck : List UInt8 → List Nat → Bool
  | _, [] => true
  | [], _ :: _ => false
  | b :: c, n :: r => (b.toNat == n) && dl_ck c r
theorem dl_ck_at : ∀ {r : List Nat} {l : List UInt8} (_ : dl_ck l r = true) {i n : Nat} (_ : r[i]? = some n), ∃ b : UInt8, l[i]? = some b ∧ b.toNat = n
  | [], _, _, i, n, hn => by simp at hn
  | a :: r, [], h, _, _, _ => by simp [dl_ck] at h
  | a :: r, b :: l, h, 0, n, hn => by
    have e : (b.toNat == a) = true ∧ dl_ck l r = true := by
      have h' : ((b.toNat == a) && dl_ck l r) = true := h
      exact ⟨(Bool.and_eq_true _ _ ▸ h').1, (Bool.and_eq_true _ _ ▸ h').2⟩
    have e2 : a = n := by simpa using hn
    exact ⟨b, rfl, by rw [← e2]; exact beq_iff_eq.mp e.1⟩
  | a :: r, b :: l, h, i + 1, n, hn => by
    have e : (b.toNat == a) = true ∧ dl_ck l r = true := by
      have h' : ((b.toNat == a) && dl_ck l r) = true := h
      exact ⟨(Bool.and_eq_true _ _ ▸ h').1, (Bool.and_eq_true _ _ ▸ h').2⟩
    obtain ⟨x, h1, h2⟩ := dl_ck_at e.2 (i := i) (n := n) (by simpa using hn)
    exact ⟨x, by simpa using h1, h2⟩
theorem dl_at {c : ByteArray} (o i : Nat) {r : List Nat} {n : Nat} (h : dl_ck (c.data.toList.drop o) r = true) (hn : r[i]? = some n) : LB c (o + i) n := by
  obtain ⟨b, h1, h2⟩ := dl_ck_at h hn
  rw [List.getElem?_drop] at h1
  have h3 := LB_of h1
  rw [h2] at h3
  exact h3

theorem lb_0 : dl_ck (cL_law.data.toList.drop 0) [187, 0, 7, 89, 183, 0, 9, 76, 187, 0, 10, 89, 183, 0, 12, 77, 3, 62, 29, 42, 190, 16, 6, 100, 163, 6, 87, 42, 29, 46, 16, 63] = true := by decide +kernel
theorem lb_1 : dl_ck (cL_law.data.toList.drop 32) [126, 170, 0, 0, 0, 0, 6, 72, 0, 0, 0, 0, 0, 0, 0, 48, 0, 0, 0, 211, 0, 0, 0, 244, 0, 0, 1, 31, 0, 0, 1, 64] = true := by decide +kernel
theorem lb_2 : dl_ck (cL_law.data.toList.drop 64) [0, 0, 1, 87, 0, 0, 1, 150, 0, 0, 1, 173, 0, 0, 1, 206, 0, 0, 1, 249, 0, 0, 2, 16, 0, 0, 2, 39, 0, 0, 2, 72] = true := by decide +kernel
theorem lb_3 : dl_ck (cL_law.data.toList.drop 96) [0, 0, 2, 105, 0, 0, 2, 138, 0, 0, 2, 171, 0, 0, 2, 204, 0, 0, 2, 227, 0, 0, 3, 24, 0, 0, 3, 57, 0, 0, 3, 80] = true := by decide +kernel
theorem lb_4 : dl_ck (cL_law.data.toList.drop 128) [0, 0, 3, 103, 0, 0, 3, 136, 0, 0, 3, 159, 0, 0, 3, 182, 0, 0, 3, 205, 0, 0, 3, 228, 0, 0, 4, 5, 0, 0, 4, 38] = true := by decide +kernel
theorem lb_5 : dl_ck (cL_law.data.toList.drop 160) [0, 0, 4, 61, 0, 0, 4, 84, 0, 0, 4, 107, 0, 0, 4, 130, 0, 0, 4, 153, 0, 0, 4, 176, 0, 0, 4, 219, 0, 0, 4, 242] = true := by decide +kernel
theorem lb_6 : dl_ck (cL_law.data.toList.drop 192) [0, 0, 5, 9, 0, 0, 5, 52, 0, 0, 5, 75, 0, 0, 5, 108, 0, 0, 5, 141, 0, 0, 5, 184, 0, 0, 5, 217, 0, 0, 5, 230] = true := by decide +kernel
theorem lb_7 : dl_ck (cL_law.data.toList.drop 224) [0, 0, 5, 243, 0, 0, 6, 0, 0, 0, 6, 23, 0, 0, 6, 36, 0, 0, 6, 59, 43, 42, 29, 4, 96, 46, 42, 29, 5, 96, 46, 182] = true := by decide +kernel
theorem lb_8 : dl_ck (cL_law.data.toList.drop 256) [0, 13, 87, 44, 42, 29, 4, 96, 46, 42, 29, 5, 96, 46, 182, 0, 17, 87, 167, 5, 87, 43, 42, 29, 4, 96, 46, 42, 29, 5, 96, 46] = true := by decide +kernel
theorem lb_9 : dl_ck (cL_law.data.toList.drop 288) [42, 29, 6, 96, 46, 182, 0, 18, 87, 44, 42, 29, 4, 96, 46, 42, 29, 5, 96, 46, 42, 29, 6, 96, 46, 182, 0, 22, 87, 167, 5, 44] = true := by decide +kernel
theorem lb_10 : dl_ck (cL_law.data.toList.drop 320) [43, 42, 29, 4, 96, 46, 42, 29, 5, 96, 46, 182, 0, 23, 87, 44, 42, 29, 4, 96, 46, 42, 29, 5, 96, 46, 182, 0, 26, 87, 167, 5] = true := by decide +kernel
theorem lb_11 : dl_ck (cL_law.data.toList.drop 352) [11, 43, 42, 29, 4, 96, 46, 182, 0, 27, 87, 44, 42, 29, 4, 96, 46, 182, 0, 31, 87, 167, 4, 244, 43, 42, 29, 4, 96, 46, 42, 29] = true := by decide +kernel
theorem lb_12 : dl_ck (cL_law.data.toList.drop 384) [5, 96, 46, 42, 29, 6, 96, 46, 42, 29, 7, 96, 46, 42, 29, 8, 96, 46, 182, 0, 32, 87, 44, 42, 29, 4, 96, 46, 42, 29, 5, 96] = true := by decide +kernel
theorem lb_13 : dl_ck (cL_law.data.toList.drop 416) [46, 42, 29, 6, 96, 46, 42, 29, 7, 96, 46, 42, 29, 8, 96, 46, 182, 0, 36, 87, 167, 4, 181, 43, 42, 29, 4, 96, 46, 182, 0, 37] = true := by decide +kernel
theorem lb_14 : dl_ck (cL_law.data.toList.drop 448) [87, 44, 42, 29, 4, 96, 46, 182, 0, 40, 87, 167, 4, 158, 43, 42, 29, 4, 96, 46, 42, 29, 5, 96, 46, 182, 0, 41, 87, 44, 42, 29] = true := by decide +kernel
theorem lb_15 : dl_ck (cL_law.data.toList.drop 480) [4, 96, 46, 42, 29, 5, 96, 46, 182, 0, 44, 87, 167, 4, 125, 43, 42, 29, 4, 96, 46, 42, 29, 5, 96, 46, 42, 29, 6, 96, 46, 182] = true := by decide +kernel
theorem lb_16 : dl_ck (cL_law.data.toList.drop 512) [0, 45, 87, 44, 42, 29, 4, 96, 46, 42, 29, 5, 96, 46, 42, 29, 6, 96, 46, 182, 0, 48, 87, 167, 4, 82, 43, 42, 29, 4, 96, 46] = true := by decide +kernel
theorem lb_17 : dl_ck (cL_law.data.toList.drop 544) [182, 0, 49, 87, 44, 42, 29, 4, 96, 46, 182, 0, 52, 87, 167, 4, 59, 43, 42, 29, 4, 96, 46, 182, 0, 53, 87, 44, 42, 29, 4, 96] = true := by decide +kernel
theorem lb_18 : dl_ck (cL_law.data.toList.drop 576) [46, 182, 0, 56, 87, 167, 4, 36, 43, 42, 29, 4, 96, 46, 42, 29, 5, 96, 46, 182, 0, 57, 87, 44, 42, 29, 4, 96, 46, 42, 29, 5] = true := by decide +kernel
theorem lb_19 : dl_ck (cL_law.data.toList.drop 608) [96, 46, 182, 0, 60, 87, 167, 4, 3, 43, 42, 29, 4, 96, 46, 42, 29, 5, 96, 46, 182, 0, 61, 87, 44, 42, 29, 4, 96, 46, 42, 29] = true := by decide +kernel
theorem lb_20 : dl_ck (cL_law.data.toList.drop 640) [5, 96, 46, 182, 0, 64, 87, 167, 3, 226, 43, 42, 29, 4, 96, 46, 42, 29, 5, 96, 46, 182, 0, 65, 87, 44, 42, 29, 4, 96, 46, 42] = true := by decide +kernel
theorem lb_21 : dl_ck (cL_law.data.toList.drop 672) [29, 5, 96, 46, 182, 0, 68, 87, 167, 3, 193, 43, 42, 29, 4, 96, 46, 42, 29, 5, 96, 46, 182, 0, 69, 87, 44, 42, 29, 4, 96, 46] = true := by decide +kernel
theorem lb_22 : dl_ck (cL_law.data.toList.drop 704) [42, 29, 5, 96, 46, 182, 0, 72, 87, 167, 3, 160, 43, 42, 29, 4, 96, 46, 42, 29, 5, 96, 46, 182, 0, 73, 87, 44, 42, 29, 4, 96] = true := by decide +kernel
theorem lb_23 : dl_ck (cL_law.data.toList.drop 736) [46, 42, 29, 5, 96, 46, 182, 0, 76, 87, 167, 3, 127, 43, 42, 29, 4, 96, 46, 182, 0, 77, 87, 44, 42, 29, 4, 96, 46, 182, 0, 80] = true := by decide +kernel
theorem lb_24 : dl_ck (cL_law.data.toList.drop 768) [87, 167, 3, 104, 43, 42, 29, 4, 96, 46, 42, 29, 5, 96, 46, 42, 29, 6, 96, 46, 42, 29, 7, 96, 46, 182, 0, 81, 44, 42, 29, 4] = true := by decide +kernel
theorem lb_25 : dl_ck (cL_law.data.toList.drop 800) [96, 46, 42, 29, 5, 96, 46, 42, 29, 6, 96, 46, 42, 29, 7, 96, 46, 182, 0, 85, 159, 3, 53, 3, 172, 43, 42, 29, 4, 96, 46, 42] = true := by decide +kernel
theorem lb_26 : dl_ck (cL_law.data.toList.drop 832) [29, 5, 96, 46, 182, 0, 86, 87, 44, 42, 29, 4, 96, 46, 42, 29, 5, 96, 46, 182, 0, 89, 87, 167, 3, 18, 43, 42, 29, 4, 96, 46] = true := by decide +kernel
theorem lb_27 : dl_ck (cL_law.data.toList.drop 864) [182, 0, 90, 87, 44, 42, 29, 4, 96, 46, 182, 0, 93, 87, 167, 2, 251, 43, 42, 29, 4, 96, 46, 182, 0, 94, 87, 44, 42, 29, 4, 96] = true := by decide +kernel
theorem lb_28 : dl_ck (cL_law.data.toList.drop 896) [46, 182, 0, 97, 87, 167, 2, 228, 43, 42, 29, 4, 96, 46, 42, 29, 5, 96, 46, 182, 0, 98, 87, 44, 42, 29, 4, 96, 46, 42, 29, 5] = true := by decide +kernel
theorem lb_29 : dl_ck (cL_law.data.toList.drop 928) [96, 46, 182, 0, 101, 87, 167, 2, 195, 43, 42, 29, 4, 96, 46, 182, 0, 102, 87, 44, 42, 29, 4, 96, 46, 182, 0, 105, 87, 167, 2, 172] = true := by decide +kernel
theorem lb_30 : dl_ck (cL_law.data.toList.drop 960) [43, 42, 29, 4, 96, 46, 182, 0, 106, 87, 44, 42, 29, 4, 96, 46, 182, 0, 109, 87, 167, 2, 149, 43, 42, 29, 4, 96, 46, 182, 0, 110] = true := by decide +kernel
theorem lb_31 : dl_ck (cL_law.data.toList.drop 992) [87, 44, 42, 29, 4, 96, 46, 182, 0, 113, 87, 167, 2, 126, 43, 42, 29, 4, 96, 46, 182, 0, 114, 87, 44, 42, 29, 4, 96, 46, 182, 0] = true := by decide +kernel
theorem lb_32 : dl_ck (cL_law.data.toList.drop 1024) [117, 87, 167, 2, 103, 43, 42, 29, 4, 96, 46, 42, 29, 5, 96, 46, 182, 0, 118, 87, 44, 42, 29, 4, 96, 46, 42, 29, 5, 96, 46, 182] = true := by decide +kernel
theorem lb_33 : dl_ck (cL_law.data.toList.drop 1056) [0, 121, 87, 167, 2, 70, 43, 42, 29, 4, 96, 46, 42, 29, 5, 96, 46, 182, 0, 122, 87, 44, 42, 29, 4, 96, 46, 42, 29, 5, 96, 46] = true := by decide +kernel
theorem lb_34 : dl_ck (cL_law.data.toList.drop 1088) [182, 0, 125, 87, 167, 2, 37, 43, 42, 29, 4, 96, 46, 182, 0, 126, 87, 44, 42, 29, 4, 96, 46, 182, 0, 129, 87, 167, 2, 14, 43, 42] = true := by decide +kernel
theorem lb_35 : dl_ck (cL_law.data.toList.drop 1120) [29, 4, 96, 46, 182, 0, 130, 87, 44, 42, 29, 4, 96, 46, 182, 0, 133, 87, 167, 1, 247, 43, 42, 29, 4, 96, 46, 182, 0, 134, 87, 44] = true := by decide +kernel
theorem lb_36 : dl_ck (cL_law.data.toList.drop 1152) [42, 29, 4, 96, 46, 182, 0, 137, 87, 167, 1, 224, 43, 42, 29, 4, 96, 46, 182, 0, 138, 87, 44, 42, 29, 4, 96, 46, 182, 0, 141, 87] = true := by decide +kernel
theorem lb_37 : dl_ck (cL_law.data.toList.drop 1184) [167, 1, 201, 43, 42, 29, 4, 96, 46, 182, 0, 142, 87, 44, 42, 29, 4, 96, 46, 182, 0, 145, 87, 167, 1, 178, 43, 42, 29, 4, 96, 46] = true := by decide +kernel
theorem lb_38 : dl_ck (cL_law.data.toList.drop 1216) [182, 0, 146, 87, 44, 42, 29, 4, 96, 46, 182, 0, 149, 87, 167, 1, 155, 43, 42, 29, 4, 96, 46, 42, 29, 5, 96, 46, 42, 29, 6, 96] = true := by decide +kernel
theorem lb_39 : dl_ck (cL_law.data.toList.drop 1248) [46, 182, 0, 150, 87, 44, 42, 29, 4, 96, 46, 42, 29, 5, 96, 46, 42, 29, 6, 96, 46, 182, 0, 153, 87, 167, 1, 112, 43, 42, 29, 4] = true := by decide +kernel
theorem lb_40 : dl_ck (cL_law.data.toList.drop 1280) [96, 46, 182, 0, 154, 87, 44, 42, 29, 4, 96, 46, 182, 0, 157, 87, 167, 1, 89, 43, 42, 29, 4, 96, 46, 182, 0, 158, 87, 44, 42, 29] = true := by decide +kernel
theorem lb_41 : dl_ck (cL_law.data.toList.drop 1312) [4, 96, 46, 182, 0, 161, 87, 167, 1, 66, 43, 42, 29, 4, 96, 46, 42, 29, 5, 96, 46, 42, 29, 6, 96, 46, 182, 0, 162, 87, 44, 42] = true := by decide +kernel
theorem lb_42 : dl_ck (cL_law.data.toList.drop 1344) [29, 4, 96, 46, 42, 29, 5, 96, 46, 42, 29, 6, 96, 46, 182, 0, 165, 87, 167, 1, 23, 43, 42, 29, 4, 96, 46, 182, 0, 166, 87, 44] = true := by decide +kernel
theorem lb_43 : dl_ck (cL_law.data.toList.drop 1376) [42, 29, 4, 96, 46, 182, 0, 169, 87, 167, 1, 0, 43, 42, 29, 4, 96, 46, 42, 29, 5, 96, 46, 182, 0, 170, 87, 44, 42, 29, 4, 96] = true := by decide +kernel
theorem lb_44 : dl_ck (cL_law.data.toList.drop 1408) [46, 42, 29, 5, 96, 46, 182, 0, 173, 87, 167, 0, 223, 43, 42, 29, 4, 96, 46, 42, 29, 5, 96, 46, 182, 0, 174, 87, 44, 42, 29, 4] = true := by decide +kernel
theorem lb_45 : dl_ck (cL_law.data.toList.drop 1440) [96, 46, 42, 29, 5, 96, 46, 182, 0, 177, 87, 167, 0, 190, 43, 42, 29, 4, 96, 46, 42, 29, 5, 96, 46, 42, 29, 6, 96, 46, 182, 0] = true := by decide +kernel
theorem lb_46 : dl_ck (cL_law.data.toList.drop 1472) [178, 87, 44, 42, 29, 4, 96, 46, 42, 29, 5, 96, 46, 42, 29, 6, 96, 46, 182, 0, 181, 87, 167, 0, 147, 43, 42, 29, 4, 96, 46, 42] = true := by decide +kernel
theorem lb_47 : dl_ck (cL_law.data.toList.drop 1504) [29, 5, 96, 46, 182, 0, 182, 87, 44, 42, 29, 4, 96, 46, 42, 29, 5, 96, 46, 182, 0, 185, 87, 167, 0, 114, 43, 182, 0, 186, 87, 44] = true := by decide +kernel
theorem lb_48 : dl_ck (cL_law.data.toList.drop 1536) [182, 0, 190, 87, 167, 0, 101, 43, 182, 0, 191, 88, 44, 182, 0, 195, 88, 167, 0, 88, 43, 182, 0, 196, 88, 44, 182, 0, 199, 88, 167, 0] = true := by decide +kernel
theorem lb_49 : dl_ck (cL_law.data.toList.drop 1568) [75, 43, 42, 29, 4, 96, 46, 182, 0, 200, 87, 44, 42, 29, 4, 96, 46, 182, 0, 203, 87, 167, 0, 52, 43, 182, 0, 204, 87, 44, 182, 0] = true := by decide +kernel
theorem lb_50 : dl_ck (cL_law.data.toList.drop 1600) [207, 87, 167, 0, 39, 43, 42, 29, 4, 96, 46, 182, 0, 208, 87, 44, 42, 29, 4, 96, 46, 182, 0, 211, 87, 167, 0, 16, 43, 182, 0, 212] = true := by decide +kernel
theorem lb_51 : dl_ck (cL_law.data.toList.drop 1632) [88, 44, 182, 0, 215, 88, 167, 0, 3, 132, 3, 6, 167, 249, 166, 4, 172] = true := by decide +kernel
