-- ===== the law's bytes in pieces, and an instruction out of its bytes =====
def LB (c : ByteArray) (i n : Nat) : Prop := ∃ h : i < c.size, (c[i]'h).toNat = n
theorem bu1 {c : ByteArray} {p n : Nat} {β : Type} {K : Nat → Decoder β} (h : LB c p n) : ((Reader.u1 : Decoder Nat) >>= K) c p = K n c (p + 1) := by
  obtain ⟨hs, hb⟩ := h
  have e : (Reader.u1 : Decoder Nat) c p = Except.ok (n, p + 1) := by
    unfold Reader.u1
    show (dite (p < c.size) (fun h => (do set (p + 1); pure (c[p]'h).toNat : Decoder Nat)) (fun _ => throw (HasTruncated.truncated p)) : Decoder Nat) c p = _
    rw [dif_pos hs]
    show Except.ok ((c[p]'hs).toNat, p + 1) = _
    rw [hb]
  show Except.bind ((Reader.u1 : Decoder Nat) c p) (fun r => K r.1 c r.2) = _
  rw [e]
  rfl
theorem ru2 {c : ByteArray} {p a b : Nat} (h1 : LB c p a) (h2 : LB c (p + 1) b) : (Reader.u2 : Decoder Nat) c p = Except.ok (a * 256 + b, p + 2) := by
  refine (bu1 h1).trans ?_
  refine (bu1 h2).trans ?_
  rfl
theorem bu2 {c : ByteArray} {p a b : Nat} {β : Type} {K : Nat → Decoder β} (h1 : LB c p a) (h2 : LB c (p + 1) b) : ((Reader.u2 : Decoder Nat) >>= K) c p = K (a * 256 + b) c (p + 2) := by
  show Except.bind ((Reader.u2 : Decoder Nat) c p) (fun r => K r.1 c r.2) = _
  rw [ru2 h1 h2]
  rfl
theorem bs2 {c : ByteArray} {p a b : Nat} {β : Type} {K : Int → Decoder β} (h1 : LB c p a) (h2 : LB c (p + 1) b) : ((Reader.s2 : Decoder Int) >>= K) c p = K (Reader.signed 16 (a * 256 + b)) c (p + 2) := by
  have e : (Reader.s2 : Decoder Int) c p = Except.ok (Reader.signed 16 (a * 256 + b), p + 2) := by
    show Except.bind ((Reader.u2 : Decoder Nat) c p) (fun r => Except.ok (Reader.signed 16 r.1, r.2)) = _
    rw [ru2 h1 h2]
    rfl
  show Except.bind ((Reader.s2 : Decoder Int) c p) (fun r => K r.1 c r.2) = _
  rw [e]
  rfl
theorem dc_of {c : ByteArray} {pc n : Nat} {i : Instr} (h : Decoder.instr pc c pc = Except.ok (i, pc + n)) : decode c pc = .ok (i, n) := by
  show Except.bind (Decoder.instr pc c pc) (fun r => Except.ok (r.1, r.2 - pc)) = _
  rw [h]
  show Except.ok (i, pc + n - pc) = _
  rw [Nat.add_sub_cancel_left]
set_option maxRecDepth 100000 in
theorem dc_aload0 {c : ByteArray} {pc : Nat} (h : LB c pc 42) : decode c pc = .ok (.aload_n 0, 1) := dc_of ((bu1 h).trans rfl)
set_option maxRecDepth 100000 in
theorem dc_aload1 {c : ByteArray} {pc : Nat} (h : LB c pc 43) : decode c pc = .ok (.aload_n 1, 1) := dc_of ((bu1 h).trans rfl)
set_option maxRecDepth 100000 in
theorem dc_aload2 {c : ByteArray} {pc : Nat} (h : LB c pc 44) : decode c pc = .ok (.aload_n 2, 1) := dc_of ((bu1 h).trans rfl)
set_option maxRecDepth 100000 in
theorem dc_iload3 {c : ByteArray} {pc : Nat} (h : LB c pc 29) : decode c pc = .ok (.iload_n 3, 1) := dc_of ((bu1 h).trans rfl)
set_option maxRecDepth 100000 in
theorem dc_iaload {c : ByteArray} {pc : Nat} (h : LB c pc 46) : decode c pc = .ok (.iaload, 1) := dc_of ((bu1 h).trans rfl)
set_option maxRecDepth 100000 in
theorem dc_iadd {c : ByteArray} {pc : Nat} (h : LB c pc 96) : decode c pc = .ok (.iadd, 1) := dc_of ((bu1 h).trans rfl)
set_option maxRecDepth 100000 in
theorem dc_pop {c : ByteArray} {pc : Nat} (h : LB c pc 87) : decode c pc = .ok (.pop, 1) := dc_of ((bu1 h).trans rfl)
set_option maxRecDepth 100000 in
theorem dc_pop2 {c : ByteArray} {pc : Nat} (h : LB c pc 88) : decode c pc = .ok (.pop2, 1) := dc_of ((bu1 h).trans rfl)
set_option maxRecDepth 100000 in
theorem dc_iconst0 {c : ByteArray} {pc : Nat} (h : LB c pc 3) : decode c pc = .ok (.iconst 0, 1) := dc_of ((bu1 h).trans rfl)
set_option maxRecDepth 100000 in
theorem dc_iconst1 {c : ByteArray} {pc : Nat} (h : LB c pc 4) : decode c pc = .ok (.iconst 1, 1) := dc_of ((bu1 h).trans rfl)
set_option maxRecDepth 100000 in
theorem dc_iconst2 {c : ByteArray} {pc : Nat} (h : LB c pc 5) : decode c pc = .ok (.iconst 2, 1) := dc_of ((bu1 h).trans rfl)
set_option maxRecDepth 100000 in
theorem dc_iconst3 {c : ByteArray} {pc : Nat} (h : LB c pc 6) : decode c pc = .ok (.iconst 3, 1) := dc_of ((bu1 h).trans rfl)
set_option maxRecDepth 100000 in
theorem dc_iconst4 {c : ByteArray} {pc : Nat} (h : LB c pc 7) : decode c pc = .ok (.iconst 4, 1) := dc_of ((bu1 h).trans rfl)
set_option maxRecDepth 100000 in
theorem dc_iconst5 {c : ByteArray} {pc : Nat} (h : LB c pc 8) : decode c pc = .ok (.iconst 5, 1) := dc_of ((bu1 h).trans rfl)
set_option maxRecDepth 100000 in
theorem dc_virt {c : ByteArray} {pc a b : Nat} (h : LB c pc 182) (h1 : LB c (pc + 1) a) (h2 : LB c (pc + 2) b) : decode c pc = .ok (.invokevirtual (a * 256 + b), 3) := dc_of ((bu1 h).trans ((bu2 h1 h2).trans rfl))
set_option maxRecDepth 100000 in
theorem dc_goto {c : ByteArray} {pc a b : Nat} {k : Int} (h : LB c pc 167) (h1 : LB c (pc + 1) a) (h2 : LB c (pc + 2) b) (hk : Reader.signed 16 (a * 256 + b) = k) : decode c pc = .ok (.goto k, 3) := dc_of ((bu1 h).trans ((bs2 h1 h2).trans (by rw [hk]; rfl)))
theorem LB_of {c : ByteArray} {i : Nat} {b : UInt8} (h : c.data.toList[i]? = some b) : LB c i b.toNat := by
  obtain ⟨h1, h2⟩ := List.getElem?_eq_some_iff.mp h
  have hs : i < c.size := by
    show i < c.data.size
    rw [← Array.length_toList]
    exact h1
  refine ⟨hs, ?_⟩
  rw [← h2]
  rfl
def dl_ck : List UInt8 → List Nat → Bool
  | _, [] => true
  | [], _ :: _ => false
  | b :: c, n :: r => (b.toNat == n) && dl_ck c r
theorem dl_ck_at : ∀ {r : List Nat} {l : List UInt8} (_ : dl_ck l r = true) {i n : Nat} (_ : r[i]? = some n), ∃ b : UInt8, l[i]? = some b ∧ b.toNat = n
  | [], _, _, i, n, hn => by simp at hn
  | a :: r, [], h, _, _, _ => by simp [dl_ck] at h
  | a :: r, b :: l, h, 0, n, hn => by
    have e : (b.toNat == a) = true ∧ dl_ck l r = true := by
      have h' : ((b.toNat == a) && dl_ck l r) = true := h
      exact ⟨(Bool.and_eq_true _ _ ▸ h').1, (Bool.and_eq_true _ _ ▸ h').2⟩
    have e2 : a = n := by simpa using hn
    exact ⟨b, rfl, by rw [← e2]; exact beq_iff_eq.mp e.1⟩
  | a :: r, b :: l, h, i + 1, n, hn => by
    have e : (b.toNat == a) = true ∧ dl_ck l r = true := by
      have h' : ((b.toNat == a) && dl_ck l r) = true := h
      exact ⟨(Bool.and_eq_true _ _ ▸ h').1, (Bool.and_eq_true _ _ ▸ h').2⟩
    obtain ⟨x, h1, h2⟩ := dl_ck_at e.2 (i := i) (n := n) (by simpa using hn)
    exact ⟨x, by simpa using h1, h2⟩
theorem dl_at {c : ByteArray} (o i : Nat) {r : List Nat} {n : Nat} (h : dl_ck (c.data.toList.drop o) r = true) (hn : r[i]? = some n) : LB c (o + i) n := by
  obtain ⟨b, h1, h2⟩ := dl_ck_at h hn
  rw [List.getElem?_drop] at h1
  have h3 := LB_of h1
  rw [h2] at h3
  exact h3
theorem ru1 {c : ByteArray} {p n : Nat} (h : LB c p n) : (Reader.u1 : Decoder Nat) c p = Except.ok (n, p + 1) := by
  obtain ⟨hs, hb⟩ := h
  unfold Reader.u1
  show (dite (p < c.size) (fun h => (do set (p + 1); pure (c[p]'h).toNat : Decoder Nat)) (fun _ => throw (HasTruncated.truncated p)) : Decoder Nat) c p = _
  rw [dif_pos hs]
  show Except.ok ((c[p]'hs).toNat, p + 1) = _
  rw [hb]
theorem bs1 {c : ByteArray} {p a : Nat} {β : Type} {K : Int → Decoder β} (h1 : LB c p a) : ((Reader.s1 : Decoder Int) >>= K) c p = K (Reader.signed 8 a) c (p + 1) := by
  have e1 : (Reader.u1 : Decoder Nat) c p = Except.ok (a, p + 1) := ru1 h1
  have e : (Reader.s1 : Decoder Int) c p = Except.ok (Reader.signed 8 a, p + 1) := by
    show Except.map (fun r : Nat × Nat => (Reader.signed 8 r.1, r.2)) ((Reader.u1 : Decoder Nat) c p) = _
    rw [e1]
    rfl
  show Except.bind ((Reader.s1 : Decoder Int) c p) (fun r => K r.1 c r.2) = _
  rw [e]
  rfl
set_option maxRecDepth 100000 in
theorem dx_2 {c : ByteArray} {pc : Nat} (h : LB c pc 2) : decode c pc = .ok (.iconst (-1), 1) := dc_of ((bu1 h).trans rfl)
set_option maxRecDepth 100000 in
theorem dx_3 {c : ByteArray} {pc : Nat} (h : LB c pc 3) : decode c pc = .ok (.iconst 0, 1) := dc_of ((bu1 h).trans rfl)
set_option maxRecDepth 100000 in
theorem dx_4 {c : ByteArray} {pc : Nat} (h : LB c pc 4) : decode c pc = .ok (.iconst 1, 1) := dc_of ((bu1 h).trans rfl)
set_option maxRecDepth 100000 in
theorem dx_5 {c : ByteArray} {pc : Nat} (h : LB c pc 5) : decode c pc = .ok (.iconst 2, 1) := dc_of ((bu1 h).trans rfl)
set_option maxRecDepth 100000 in
theorem dx_6 {c : ByteArray} {pc : Nat} (h : LB c pc 6) : decode c pc = .ok (.iconst 3, 1) := dc_of ((bu1 h).trans rfl)
set_option maxRecDepth 100000 in
theorem dx_7 {c : ByteArray} {pc : Nat} (h : LB c pc 7) : decode c pc = .ok (.iconst 4, 1) := dc_of ((bu1 h).trans rfl)
set_option maxRecDepth 100000 in
theorem dx_8 {c : ByteArray} {pc : Nat} (h : LB c pc 8) : decode c pc = .ok (.iconst 5, 1) := dc_of ((bu1 h).trans rfl)
set_option maxRecDepth 100000 in
theorem dx_9 {c : ByteArray} {pc : Nat} (h : LB c pc 9) : decode c pc = .ok (.lconst 0, 1) := dc_of ((bu1 h).trans rfl)
set_option maxRecDepth 100000 in
theorem dx_10 {c : ByteArray} {pc : Nat} (h : LB c pc 10) : decode c pc = .ok (.lconst 1, 1) := dc_of ((bu1 h).trans rfl)
set_option maxRecDepth 100000 in
theorem dx_16 {c : ByteArray} {pc a : Nat} {k : Int} (h : LB c pc 16) (h1 : LB c (pc + 1) a) (hk : Reader.signed 8 a = k) : decode c pc = .ok (.bipush k, 2) := dc_of ((bu1 h).trans ((bs1 h1).trans (by rw [hk]; rfl)))
set_option maxRecDepth 100000 in
theorem dx_17 {c : ByteArray} {pc a b : Nat} {k : Int} (h : LB c pc 17) (h1 : LB c (pc + 1) a) (h2 : LB c (pc + 2) b) (hk : Reader.signed 16 (a * 256 + b) = k) : decode c pc = .ok (.sipush k, 3) := dc_of ((bu1 h).trans ((bs2 h1 h2).trans (by rw [hk]; rfl)))
set_option maxRecDepth 100000 in
theorem dx_18 {c : ByteArray} {pc a : Nat} (h : LB c pc 18) (h1 : LB c (pc + 1) a) : decode c pc = .ok (.ldc a, 2) := dc_of ((bu1 h).trans ((bu1 h1).trans rfl))
set_option maxRecDepth 100000 in
theorem dx_20 {c : ByteArray} {pc a b n : Nat} (h : LB c pc 20) (h1 : LB c (pc + 1) a) (h2 : LB c (pc + 2) b) (hn : a * 256 + b = n) : decode c pc = .ok (.ldc2_w n, 3) := dc_of ((bu1 h).trans ((bu2 h1 h2).trans (by rw [hn]; rfl)))
set_option maxRecDepth 100000 in
theorem dx_21 {c : ByteArray} {pc a : Nat} (h : LB c pc 21) (h1 : LB c (pc + 1) a) : decode c pc = .ok (.iload a, 2) := dc_of ((bu1 h).trans ((bu1 h1).trans rfl))
set_option maxRecDepth 100000 in
theorem dx_22 {c : ByteArray} {pc a : Nat} (h : LB c pc 22) (h1 : LB c (pc + 1) a) : decode c pc = .ok (.lload a, 2) := dc_of ((bu1 h).trans ((bu1 h1).trans rfl))
set_option maxRecDepth 100000 in
theorem dx_25 {c : ByteArray} {pc a : Nat} (h : LB c pc 25) (h1 : LB c (pc + 1) a) : decode c pc = .ok (.aload a, 2) := dc_of ((bu1 h).trans ((bu1 h1).trans rfl))
set_option maxRecDepth 100000 in
theorem dx_26 {c : ByteArray} {pc : Nat} (h : LB c pc 26) : decode c pc = .ok (.iload_n 0, 1) := dc_of ((bu1 h).trans rfl)
set_option maxRecDepth 100000 in
theorem dx_27 {c : ByteArray} {pc : Nat} (h : LB c pc 27) : decode c pc = .ok (.iload_n 1, 1) := dc_of ((bu1 h).trans rfl)
set_option maxRecDepth 100000 in
theorem dx_28 {c : ByteArray} {pc : Nat} (h : LB c pc 28) : decode c pc = .ok (.iload_n 2, 1) := dc_of ((bu1 h).trans rfl)
set_option maxRecDepth 100000 in
theorem dx_29 {c : ByteArray} {pc : Nat} (h : LB c pc 29) : decode c pc = .ok (.iload_n 3, 1) := dc_of ((bu1 h).trans rfl)
set_option maxRecDepth 100000 in
theorem dx_30 {c : ByteArray} {pc : Nat} (h : LB c pc 30) : decode c pc = .ok (.lload_n 0, 1) := dc_of ((bu1 h).trans rfl)
set_option maxRecDepth 100000 in
theorem dx_31 {c : ByteArray} {pc : Nat} (h : LB c pc 31) : decode c pc = .ok (.lload_n 1, 1) := dc_of ((bu1 h).trans rfl)
set_option maxRecDepth 100000 in
theorem dx_32 {c : ByteArray} {pc : Nat} (h : LB c pc 32) : decode c pc = .ok (.lload_n 2, 1) := dc_of ((bu1 h).trans rfl)
set_option maxRecDepth 100000 in
theorem dx_33 {c : ByteArray} {pc : Nat} (h : LB c pc 33) : decode c pc = .ok (.lload_n 3, 1) := dc_of ((bu1 h).trans rfl)
set_option maxRecDepth 100000 in
theorem dx_42 {c : ByteArray} {pc : Nat} (h : LB c pc 42) : decode c pc = .ok (.aload_n 0, 1) := dc_of ((bu1 h).trans rfl)
set_option maxRecDepth 100000 in
theorem dx_43 {c : ByteArray} {pc : Nat} (h : LB c pc 43) : decode c pc = .ok (.aload_n 1, 1) := dc_of ((bu1 h).trans rfl)
set_option maxRecDepth 100000 in
theorem dx_44 {c : ByteArray} {pc : Nat} (h : LB c pc 44) : decode c pc = .ok (.aload_n 2, 1) := dc_of ((bu1 h).trans rfl)
set_option maxRecDepth 100000 in
theorem dx_45 {c : ByteArray} {pc : Nat} (h : LB c pc 45) : decode c pc = .ok (.aload_n 3, 1) := dc_of ((bu1 h).trans rfl)
set_option maxRecDepth 100000 in
theorem dx_46 {c : ByteArray} {pc : Nat} (h : LB c pc 46) : decode c pc = .ok (.iaload, 1) := dc_of ((bu1 h).trans rfl)
set_option maxRecDepth 100000 in
theorem dx_50 {c : ByteArray} {pc : Nat} (h : LB c pc 50) : decode c pc = .ok (.aaload, 1) := dc_of ((bu1 h).trans rfl)
set_option maxRecDepth 100000 in
theorem dx_51 {c : ByteArray} {pc : Nat} (h : LB c pc 51) : decode c pc = .ok (.baload, 1) := dc_of ((bu1 h).trans rfl)
set_option maxRecDepth 100000 in
theorem dx_54 {c : ByteArray} {pc a : Nat} (h : LB c pc 54) (h1 : LB c (pc + 1) a) : decode c pc = .ok (.istore a, 2) := dc_of ((bu1 h).trans ((bu1 h1).trans rfl))
set_option maxRecDepth 100000 in
theorem dx_55 {c : ByteArray} {pc a : Nat} (h : LB c pc 55) (h1 : LB c (pc + 1) a) : decode c pc = .ok (.lstore a, 2) := dc_of ((bu1 h).trans ((bu1 h1).trans rfl))
set_option maxRecDepth 100000 in
theorem dx_58 {c : ByteArray} {pc a : Nat} (h : LB c pc 58) (h1 : LB c (pc + 1) a) : decode c pc = .ok (.astore a, 2) := dc_of ((bu1 h).trans ((bu1 h1).trans rfl))
set_option maxRecDepth 100000 in
theorem dx_59 {c : ByteArray} {pc : Nat} (h : LB c pc 59) : decode c pc = .ok (.istore_n 0, 1) := dc_of ((bu1 h).trans rfl)
set_option maxRecDepth 100000 in
theorem dx_60 {c : ByteArray} {pc : Nat} (h : LB c pc 60) : decode c pc = .ok (.istore_n 1, 1) := dc_of ((bu1 h).trans rfl)
set_option maxRecDepth 100000 in
theorem dx_61 {c : ByteArray} {pc : Nat} (h : LB c pc 61) : decode c pc = .ok (.istore_n 2, 1) := dc_of ((bu1 h).trans rfl)
set_option maxRecDepth 100000 in
theorem dx_62 {c : ByteArray} {pc : Nat} (h : LB c pc 62) : decode c pc = .ok (.istore_n 3, 1) := dc_of ((bu1 h).trans rfl)
set_option maxRecDepth 100000 in
theorem dx_64 {c : ByteArray} {pc : Nat} (h : LB c pc 64) : decode c pc = .ok (.lstore_n 1, 1) := dc_of ((bu1 h).trans rfl)
set_option maxRecDepth 100000 in
theorem dx_66 {c : ByteArray} {pc : Nat} (h : LB c pc 66) : decode c pc = .ok (.lstore_n 3, 1) := dc_of ((bu1 h).trans rfl)
set_option maxRecDepth 100000 in
theorem dx_77 {c : ByteArray} {pc : Nat} (h : LB c pc 77) : decode c pc = .ok (.astore_n 2, 1) := dc_of ((bu1 h).trans rfl)
set_option maxRecDepth 100000 in
theorem dx_78 {c : ByteArray} {pc : Nat} (h : LB c pc 78) : decode c pc = .ok (.astore_n 3, 1) := dc_of ((bu1 h).trans rfl)
set_option maxRecDepth 100000 in
theorem dx_79 {c : ByteArray} {pc : Nat} (h : LB c pc 79) : decode c pc = .ok (.iastore, 1) := dc_of ((bu1 h).trans rfl)
set_option maxRecDepth 100000 in
theorem dx_83 {c : ByteArray} {pc : Nat} (h : LB c pc 83) : decode c pc = .ok (.aastore, 1) := dc_of ((bu1 h).trans rfl)
set_option maxRecDepth 100000 in
theorem dx_84 {c : ByteArray} {pc : Nat} (h : LB c pc 84) : decode c pc = .ok (.bastore, 1) := dc_of ((bu1 h).trans rfl)
set_option maxRecDepth 100000 in
theorem dx_87 {c : ByteArray} {pc : Nat} (h : LB c pc 87) : decode c pc = .ok (.pop, 1) := dc_of ((bu1 h).trans rfl)
set_option maxRecDepth 100000 in
theorem dx_89 {c : ByteArray} {pc : Nat} (h : LB c pc 89) : decode c pc = .ok (.dup, 1) := dc_of ((bu1 h).trans rfl)
set_option maxRecDepth 100000 in
theorem dx_92 {c : ByteArray} {pc : Nat} (h : LB c pc 92) : decode c pc = .ok (.dup2, 1) := dc_of ((bu1 h).trans rfl)
set_option maxRecDepth 100000 in
theorem dx_96 {c : ByteArray} {pc : Nat} (h : LB c pc 96) : decode c pc = .ok (.iadd, 1) := dc_of ((bu1 h).trans rfl)
set_option maxRecDepth 100000 in
theorem dx_97 {c : ByteArray} {pc : Nat} (h : LB c pc 97) : decode c pc = .ok (.ladd, 1) := dc_of ((bu1 h).trans rfl)
set_option maxRecDepth 100000 in
theorem dx_100 {c : ByteArray} {pc : Nat} (h : LB c pc 100) : decode c pc = .ok (.isub, 1) := dc_of ((bu1 h).trans rfl)
set_option maxRecDepth 100000 in
theorem dx_104 {c : ByteArray} {pc : Nat} (h : LB c pc 104) : decode c pc = .ok (.imul, 1) := dc_of ((bu1 h).trans rfl)
set_option maxRecDepth 100000 in
theorem dx_105 {c : ByteArray} {pc : Nat} (h : LB c pc 105) : decode c pc = .ok (.lmul, 1) := dc_of ((bu1 h).trans rfl)
set_option maxRecDepth 100000 in
theorem dx_108 {c : ByteArray} {pc : Nat} (h : LB c pc 108) : decode c pc = .ok (.idiv, 1) := dc_of ((bu1 h).trans rfl)
set_option maxRecDepth 100000 in
theorem dx_109 {c : ByteArray} {pc : Nat} (h : LB c pc 109) : decode c pc = .ok (.ldiv, 1) := dc_of ((bu1 h).trans rfl)
set_option maxRecDepth 100000 in
theorem dx_112 {c : ByteArray} {pc : Nat} (h : LB c pc 112) : decode c pc = .ok (.irem, 1) := dc_of ((bu1 h).trans rfl)
set_option maxRecDepth 100000 in
theorem dx_113 {c : ByteArray} {pc : Nat} (h : LB c pc 113) : decode c pc = .ok (.lrem, 1) := dc_of ((bu1 h).trans rfl)
set_option maxRecDepth 100000 in
theorem dx_120 {c : ByteArray} {pc : Nat} (h : LB c pc 120) : decode c pc = .ok (.ishl, 1) := dc_of ((bu1 h).trans rfl)
set_option maxRecDepth 100000 in
theorem dx_122 {c : ByteArray} {pc : Nat} (h : LB c pc 122) : decode c pc = .ok (.ishr, 1) := dc_of ((bu1 h).trans rfl)
set_option maxRecDepth 100000 in
theorem dx_124 {c : ByteArray} {pc : Nat} (h : LB c pc 124) : decode c pc = .ok (.iushr, 1) := dc_of ((bu1 h).trans rfl)
set_option maxRecDepth 100000 in
theorem dx_126 {c : ByteArray} {pc : Nat} (h : LB c pc 126) : decode c pc = .ok (.iand, 1) := dc_of ((bu1 h).trans rfl)
set_option maxRecDepth 100000 in
theorem dx_128 {c : ByteArray} {pc : Nat} (h : LB c pc 128) : decode c pc = .ok (.ior, 1) := dc_of ((bu1 h).trans rfl)
set_option maxRecDepth 100000 in
theorem dx_130 {c : ByteArray} {pc : Nat} (h : LB c pc 130) : decode c pc = .ok (.ixor, 1) := dc_of ((bu1 h).trans rfl)
set_option maxRecDepth 100000 in
theorem dx_132 {c : ByteArray} {pc a b : Nat} {k : Int} (h : LB c pc 132) (h1 : LB c (pc + 1) a) (h2 : LB c (pc + 2) b) (hk : Reader.signed 8 b = k) : decode c pc = .ok (.iinc a k, 3) := dc_of ((bu1 h).trans ((bu1 h1).trans ((bs1 h2).trans (by rw [hk]; rfl))))
set_option maxRecDepth 100000 in
theorem dx_133 {c : ByteArray} {pc : Nat} (h : LB c pc 133) : decode c pc = .ok (.i2l, 1) := dc_of ((bu1 h).trans rfl)
set_option maxRecDepth 100000 in
theorem dx_136 {c : ByteArray} {pc : Nat} (h : LB c pc 136) : decode c pc = .ok (.l2i, 1) := dc_of ((bu1 h).trans rfl)
set_option maxRecDepth 100000 in
theorem dx_145 {c : ByteArray} {pc : Nat} (h : LB c pc 145) : decode c pc = .ok (.i2b, 1) := dc_of ((bu1 h).trans rfl)
set_option maxRecDepth 100000 in
theorem dx_148 {c : ByteArray} {pc : Nat} (h : LB c pc 148) : decode c pc = .ok (.lcmp, 1) := dc_of ((bu1 h).trans rfl)
set_option maxRecDepth 100000 in
theorem dx_153 {c : ByteArray} {pc a b : Nat} {k : Int} (h : LB c pc 153) (h1 : LB c (pc + 1) a) (h2 : LB c (pc + 2) b) (hk : Reader.signed 16 (a * 256 + b) = k) : decode c pc = .ok (.ifCond .eq k, 3) := dc_of ((bu1 h).trans ((bs2 h1 h2).trans (by rw [hk]; rfl)))
set_option maxRecDepth 100000 in
theorem dx_154 {c : ByteArray} {pc a b : Nat} {k : Int} (h : LB c pc 154) (h1 : LB c (pc + 1) a) (h2 : LB c (pc + 2) b) (hk : Reader.signed 16 (a * 256 + b) = k) : decode c pc = .ok (.ifCond .ne k, 3) := dc_of ((bu1 h).trans ((bs2 h1 h2).trans (by rw [hk]; rfl)))
set_option maxRecDepth 100000 in
theorem dx_155 {c : ByteArray} {pc a b : Nat} {k : Int} (h : LB c pc 155) (h1 : LB c (pc + 1) a) (h2 : LB c (pc + 2) b) (hk : Reader.signed 16 (a * 256 + b) = k) : decode c pc = .ok (.ifCond .lt k, 3) := dc_of ((bu1 h).trans ((bs2 h1 h2).trans (by rw [hk]; rfl)))
set_option maxRecDepth 100000 in
theorem dx_156 {c : ByteArray} {pc a b : Nat} {k : Int} (h : LB c pc 156) (h1 : LB c (pc + 1) a) (h2 : LB c (pc + 2) b) (hk : Reader.signed 16 (a * 256 + b) = k) : decode c pc = .ok (.ifCond .ge k, 3) := dc_of ((bu1 h).trans ((bs2 h1 h2).trans (by rw [hk]; rfl)))
set_option maxRecDepth 100000 in
theorem dx_157 {c : ByteArray} {pc a b : Nat} {k : Int} (h : LB c pc 157) (h1 : LB c (pc + 1) a) (h2 : LB c (pc + 2) b) (hk : Reader.signed 16 (a * 256 + b) = k) : decode c pc = .ok (.ifCond .gt k, 3) := dc_of ((bu1 h).trans ((bs2 h1 h2).trans (by rw [hk]; rfl)))
set_option maxRecDepth 100000 in
theorem dx_158 {c : ByteArray} {pc a b : Nat} {k : Int} (h : LB c pc 158) (h1 : LB c (pc + 1) a) (h2 : LB c (pc + 2) b) (hk : Reader.signed 16 (a * 256 + b) = k) : decode c pc = .ok (.ifCond .le k, 3) := dc_of ((bu1 h).trans ((bs2 h1 h2).trans (by rw [hk]; rfl)))
set_option maxRecDepth 100000 in
theorem dx_159 {c : ByteArray} {pc a b : Nat} {k : Int} (h : LB c pc 159) (h1 : LB c (pc + 1) a) (h2 : LB c (pc + 2) b) (hk : Reader.signed 16 (a * 256 + b) = k) : decode c pc = .ok (.if_icmp .eq k, 3) := dc_of ((bu1 h).trans ((bs2 h1 h2).trans (by rw [hk]; rfl)))
set_option maxRecDepth 100000 in
theorem dx_160 {c : ByteArray} {pc a b : Nat} {k : Int} (h : LB c pc 160) (h1 : LB c (pc + 1) a) (h2 : LB c (pc + 2) b) (hk : Reader.signed 16 (a * 256 + b) = k) : decode c pc = .ok (.if_icmp .ne k, 3) := dc_of ((bu1 h).trans ((bs2 h1 h2).trans (by rw [hk]; rfl)))
set_option maxRecDepth 100000 in
theorem dx_161 {c : ByteArray} {pc a b : Nat} {k : Int} (h : LB c pc 161) (h1 : LB c (pc + 1) a) (h2 : LB c (pc + 2) b) (hk : Reader.signed 16 (a * 256 + b) = k) : decode c pc = .ok (.if_icmp .lt k, 3) := dc_of ((bu1 h).trans ((bs2 h1 h2).trans (by rw [hk]; rfl)))
set_option maxRecDepth 100000 in
theorem dx_162 {c : ByteArray} {pc a b : Nat} {k : Int} (h : LB c pc 162) (h1 : LB c (pc + 1) a) (h2 : LB c (pc + 2) b) (hk : Reader.signed 16 (a * 256 + b) = k) : decode c pc = .ok (.if_icmp .ge k, 3) := dc_of ((bu1 h).trans ((bs2 h1 h2).trans (by rw [hk]; rfl)))
set_option maxRecDepth 100000 in
theorem dx_163 {c : ByteArray} {pc a b : Nat} {k : Int} (h : LB c pc 163) (h1 : LB c (pc + 1) a) (h2 : LB c (pc + 2) b) (hk : Reader.signed 16 (a * 256 + b) = k) : decode c pc = .ok (.if_icmp .gt k, 3) := dc_of ((bu1 h).trans ((bs2 h1 h2).trans (by rw [hk]; rfl)))
set_option maxRecDepth 100000 in
theorem dx_164 {c : ByteArray} {pc a b : Nat} {k : Int} (h : LB c pc 164) (h1 : LB c (pc + 1) a) (h2 : LB c (pc + 2) b) (hk : Reader.signed 16 (a * 256 + b) = k) : decode c pc = .ok (.if_icmp .le k, 3) := dc_of ((bu1 h).trans ((bs2 h1 h2).trans (by rw [hk]; rfl)))
set_option maxRecDepth 100000 in
theorem dx_167 {c : ByteArray} {pc a b : Nat} {k : Int} (h : LB c pc 167) (h1 : LB c (pc + 1) a) (h2 : LB c (pc + 2) b) (hk : Reader.signed 16 (a * 256 + b) = k) : decode c pc = .ok (.goto k, 3) := dc_of ((bu1 h).trans ((bs2 h1 h2).trans (by rw [hk]; rfl)))
set_option maxRecDepth 100000 in
theorem dx_172 {c : ByteArray} {pc : Nat} (h : LB c pc 172) : decode c pc = .ok (.ireturn, 1) := dc_of ((bu1 h).trans rfl)
set_option maxRecDepth 100000 in
theorem dx_173 {c : ByteArray} {pc : Nat} (h : LB c pc 173) : decode c pc = .ok (.lreturn, 1) := dc_of ((bu1 h).trans rfl)
set_option maxRecDepth 100000 in
theorem dx_177 {c : ByteArray} {pc : Nat} (h : LB c pc 177) : decode c pc = .ok (.return_, 1) := dc_of ((bu1 h).trans rfl)
set_option maxRecDepth 100000 in
theorem dx_178 {c : ByteArray} {pc a b n : Nat} (h : LB c pc 178) (h1 : LB c (pc + 1) a) (h2 : LB c (pc + 2) b) (hn : a * 256 + b = n) : decode c pc = .ok (.getstatic n, 3) := dc_of ((bu1 h).trans ((bu2 h1 h2).trans (by rw [hn]; rfl)))
set_option maxRecDepth 100000 in
theorem dx_180 {c : ByteArray} {pc a b n : Nat} (h : LB c pc 180) (h1 : LB c (pc + 1) a) (h2 : LB c (pc + 2) b) (hn : a * 256 + b = n) : decode c pc = .ok (.getfield n, 3) := dc_of ((bu1 h).trans ((bu2 h1 h2).trans (by rw [hn]; rfl)))
set_option maxRecDepth 100000 in
theorem dx_181 {c : ByteArray} {pc a b n : Nat} (h : LB c pc 181) (h1 : LB c (pc + 1) a) (h2 : LB c (pc + 2) b) (hn : a * 256 + b = n) : decode c pc = .ok (.putfield n, 3) := dc_of ((bu1 h).trans ((bu2 h1 h2).trans (by rw [hn]; rfl)))
set_option maxRecDepth 100000 in
theorem dx_182 {c : ByteArray} {pc a b n : Nat} (h : LB c pc 182) (h1 : LB c (pc + 1) a) (h2 : LB c (pc + 2) b) (hn : a * 256 + b = n) : decode c pc = .ok (.invokevirtual n, 3) := dc_of ((bu1 h).trans ((bu2 h1 h2).trans (by rw [hn]; rfl)))
set_option maxRecDepth 100000 in
theorem dx_183 {c : ByteArray} {pc a b n : Nat} (h : LB c pc 183) (h1 : LB c (pc + 1) a) (h2 : LB c (pc + 2) b) (hn : a * 256 + b = n) : decode c pc = .ok (.invokespecial n, 3) := dc_of ((bu1 h).trans ((bu2 h1 h2).trans (by rw [hn]; rfl)))
set_option maxRecDepth 100000 in
theorem dx_184 {c : ByteArray} {pc a b n : Nat} (h : LB c pc 184) (h1 : LB c (pc + 1) a) (h2 : LB c (pc + 2) b) (hn : a * 256 + b = n) : decode c pc = .ok (.invokestatic n, 3) := dc_of ((bu1 h).trans ((bu2 h1 h2).trans (by rw [hn]; rfl)))
set_option maxRecDepth 100000 in
theorem dx_187 {c : ByteArray} {pc a b n : Nat} (h : LB c pc 187) (h1 : LB c (pc + 1) a) (h2 : LB c (pc + 2) b) (hn : a * 256 + b = n) : decode c pc = .ok (.new n, 3) := dc_of ((bu1 h).trans ((bu2 h1 h2).trans (by rw [hn]; rfl)))
set_option maxRecDepth 100000 in
theorem dx_189 {c : ByteArray} {pc a b n : Nat} (h : LB c pc 189) (h1 : LB c (pc + 1) a) (h2 : LB c (pc + 2) b) (hn : a * 256 + b = n) : decode c pc = .ok (.anewarray n, 3) := dc_of ((bu1 h).trans ((bu2 h1 h2).trans (by rw [hn]; rfl)))
set_option maxRecDepth 100000 in
theorem dx_190 {c : ByteArray} {pc : Nat} (h : LB c pc 190) : decode c pc = .ok (.arraylength, 1) := dc_of ((bu1 h).trans rfl)
theorem sg8_1 : Reader.signed 8 (1) = 1 := by decide +kernel
theorem sg8_2 : Reader.signed 8 (2) = 2 := by decide +kernel
theorem sg8_6 : Reader.signed 8 (6) = 6 := by decide +kernel
theorem sg8_7 : Reader.signed 8 (7) = 7 := by decide +kernel
theorem sg8_8 : Reader.signed 8 (8) = 8 := by decide +kernel
theorem sg8_9 : Reader.signed 8 (9) = 9 := by decide +kernel
theorem sg8_10 : Reader.signed 8 (10) = 10 := by decide +kernel
theorem sg8_12 : Reader.signed 8 (12) = 12 := by decide +kernel
theorem sg8_16 : Reader.signed 8 (16) = 16 := by decide +kernel
theorem sg8_19 : Reader.signed 8 (19) = 19 := by decide +kernel
theorem sg8_20 : Reader.signed 8 (20) = 20 := by decide +kernel
theorem sg8_24 : Reader.signed 8 (24) = 24 := by decide +kernel
theorem sg8_32 : Reader.signed 8 (32) = 32 := by decide +kernel
theorem sg8_40 : Reader.signed 8 (40) = 40 := by decide +kernel
theorem sg8_48 : Reader.signed 8 (48) = 48 := by decide +kernel
theorem sg8_57 : Reader.signed 8 (57) = 57 := by decide +kernel
theorem sg8_63 : Reader.signed 8 (63) = 63 := by decide +kernel
theorem sg8_64 : Reader.signed 8 (64) = 64 := by decide +kernel
theorem sg8_80 : Reader.signed 8 (80) = 80 := by decide +kernel
theorem sg8_98 : Reader.signed 8 (98) = 98 := by decide +kernel
theorem sg8_99 : Reader.signed 8 (99) = 99 := by decide +kernel
theorem sg8_102 : Reader.signed 8 (102) = 102 := by decide +kernel
theorem sg8_109 : Reader.signed 8 (109) = 109 := by decide +kernel
theorem sg8_114 : Reader.signed 8 (114) = 114 := by decide +kernel
theorem sg8_115 : Reader.signed 8 (115) = 115 := by decide +kernel
theorem sg8_117 : Reader.signed 8 (117) = 117 := by decide +kernel
theorem sg8_119 : Reader.signed 8 (119) = 119 := by decide +kernel
theorem sg8_127 : Reader.signed 8 (127) = 127 := by decide +kernel
theorem sg8_247 : Reader.signed 8 (247) = (-9) := by decide +kernel
theorem sg8_252 : Reader.signed 8 (252) = (-4) := by decide +kernel
theorem sg8_253 : Reader.signed 8 (253) = (-3) := by decide +kernel
theorem sg8_254 : Reader.signed 8 (254) = (-2) := by decide +kernel
theorem sg8_255 : Reader.signed 8 (255) = (-1) := by decide +kernel
theorem sg16_4 : Reader.signed 16 (0 * 256 + 4) = 4 := by decide +kernel
theorem sg16_5 : Reader.signed 16 (0 * 256 + 5) = 5 := by decide +kernel
theorem sg16_6 : Reader.signed 16 (0 * 256 + 6) = 6 := by decide +kernel
theorem sg16_7 : Reader.signed 16 (0 * 256 + 7) = 7 := by decide +kernel
theorem sg16_8 : Reader.signed 16 (0 * 256 + 8) = 8 := by decide +kernel
theorem sg16_9 : Reader.signed 16 (0 * 256 + 9) = 9 := by decide +kernel
theorem sg16_10 : Reader.signed 16 (0 * 256 + 10) = 10 := by decide +kernel
theorem sg16_11 : Reader.signed 16 (0 * 256 + 11) = 11 := by decide +kernel
theorem sg16_12 : Reader.signed 16 (0 * 256 + 12) = 12 := by decide +kernel
theorem sg16_13 : Reader.signed 16 (0 * 256 + 13) = 13 := by decide +kernel
theorem sg16_14 : Reader.signed 16 (0 * 256 + 14) = 14 := by decide +kernel
theorem sg16_15 : Reader.signed 16 (0 * 256 + 15) = 15 := by decide +kernel
theorem sg16_16 : Reader.signed 16 (0 * 256 + 16) = 16 := by decide +kernel
theorem sg16_17 : Reader.signed 16 (0 * 256 + 17) = 17 := by decide +kernel
theorem sg16_18 : Reader.signed 16 (0 * 256 + 18) = 18 := by decide +kernel
theorem sg16_19 : Reader.signed 16 (0 * 256 + 19) = 19 := by decide +kernel
theorem sg16_20 : Reader.signed 16 (0 * 256 + 20) = 20 := by decide +kernel
theorem sg16_21 : Reader.signed 16 (0 * 256 + 21) = 21 := by decide +kernel
theorem sg16_22 : Reader.signed 16 (0 * 256 + 22) = 22 := by decide +kernel
theorem sg16_23 : Reader.signed 16 (0 * 256 + 23) = 23 := by decide +kernel
theorem sg16_24 : Reader.signed 16 (0 * 256 + 24) = 24 := by decide +kernel
theorem sg16_25 : Reader.signed 16 (0 * 256 + 25) = 25 := by decide +kernel
theorem sg16_26 : Reader.signed 16 (0 * 256 + 26) = 26 := by decide +kernel
theorem sg16_27 : Reader.signed 16 (0 * 256 + 27) = 27 := by decide +kernel
theorem sg16_28 : Reader.signed 16 (0 * 256 + 28) = 28 := by decide +kernel
theorem sg16_29 : Reader.signed 16 (0 * 256 + 29) = 29 := by decide +kernel
theorem sg16_30 : Reader.signed 16 (0 * 256 + 30) = 30 := by decide +kernel
theorem sg16_31 : Reader.signed 16 (0 * 256 + 31) = 31 := by decide +kernel
theorem sg16_32 : Reader.signed 16 (0 * 256 + 32) = 32 := by decide +kernel
theorem sg16_33 : Reader.signed 16 (0 * 256 + 33) = 33 := by decide +kernel
theorem sg16_34 : Reader.signed 16 (0 * 256 + 34) = 34 := by decide +kernel
theorem sg16_35 : Reader.signed 16 (0 * 256 + 35) = 35 := by decide +kernel
theorem sg16_36 : Reader.signed 16 (0 * 256 + 36) = 36 := by decide +kernel
theorem sg16_37 : Reader.signed 16 (0 * 256 + 37) = 37 := by decide +kernel
theorem sg16_38 : Reader.signed 16 (0 * 256 + 38) = 38 := by decide +kernel
theorem sg16_39 : Reader.signed 16 (0 * 256 + 39) = 39 := by decide +kernel
theorem sg16_40 : Reader.signed 16 (0 * 256 + 40) = 40 := by decide +kernel
theorem sg16_41 : Reader.signed 16 (0 * 256 + 41) = 41 := by decide +kernel
theorem sg16_42 : Reader.signed 16 (0 * 256 + 42) = 42 := by decide +kernel
theorem sg16_43 : Reader.signed 16 (0 * 256 + 43) = 43 := by decide +kernel
theorem sg16_45 : Reader.signed 16 (0 * 256 + 45) = 45 := by decide +kernel
theorem sg16_47 : Reader.signed 16 (0 * 256 + 47) = 47 := by decide +kernel
theorem sg16_48 : Reader.signed 16 (0 * 256 + 48) = 48 := by decide +kernel
theorem sg16_49 : Reader.signed 16 (0 * 256 + 49) = 49 := by decide +kernel
theorem sg16_50 : Reader.signed 16 (0 * 256 + 50) = 50 := by decide +kernel
theorem sg16_52 : Reader.signed 16 (0 * 256 + 52) = 52 := by decide +kernel
theorem sg16_53 : Reader.signed 16 (0 * 256 + 53) = 53 := by decide +kernel
theorem sg16_54 : Reader.signed 16 (0 * 256 + 54) = 54 := by decide +kernel
theorem sg16_55 : Reader.signed 16 (0 * 256 + 55) = 55 := by decide +kernel
theorem sg16_56 : Reader.signed 16 (0 * 256 + 56) = 56 := by decide +kernel
theorem sg16_58 : Reader.signed 16 (0 * 256 + 58) = 58 := by decide +kernel
theorem sg16_59 : Reader.signed 16 (0 * 256 + 59) = 59 := by decide +kernel
theorem sg16_60 : Reader.signed 16 (0 * 256 + 60) = 60 := by decide +kernel
theorem sg16_61 : Reader.signed 16 (0 * 256 + 61) = 61 := by decide +kernel
theorem sg16_62 : Reader.signed 16 (0 * 256 + 62) = 62 := by decide +kernel
theorem sg16_65 : Reader.signed 16 (0 * 256 + 65) = 65 := by decide +kernel
theorem sg16_66 : Reader.signed 16 (0 * 256 + 66) = 66 := by decide +kernel
theorem sg16_67 : Reader.signed 16 (0 * 256 + 67) = 67 := by decide +kernel
theorem sg16_69 : Reader.signed 16 (0 * 256 + 69) = 69 := by decide +kernel
theorem sg16_70 : Reader.signed 16 (0 * 256 + 70) = 70 := by decide +kernel
theorem sg16_72 : Reader.signed 16 (0 * 256 + 72) = 72 := by decide +kernel
theorem sg16_74 : Reader.signed 16 (0 * 256 + 74) = 74 := by decide +kernel
theorem sg16_76 : Reader.signed 16 (0 * 256 + 76) = 76 := by decide +kernel
theorem sg16_77 : Reader.signed 16 (0 * 256 + 77) = 77 := by decide +kernel
theorem sg16_78 : Reader.signed 16 (0 * 256 + 78) = 78 := by decide +kernel
theorem sg16_79 : Reader.signed 16 (0 * 256 + 79) = 79 := by decide +kernel
theorem sg16_80 : Reader.signed 16 (0 * 256 + 80) = 80 := by decide +kernel
theorem sg16_82 : Reader.signed 16 (0 * 256 + 82) = 82 := by decide +kernel
theorem sg16_84 : Reader.signed 16 (0 * 256 + 84) = 84 := by decide +kernel
theorem sg16_87 : Reader.signed 16 (0 * 256 + 87) = 87 := by decide +kernel
theorem sg16_89 : Reader.signed 16 (0 * 256 + 89) = 89 := by decide +kernel
theorem sg16_91 : Reader.signed 16 (0 * 256 + 91) = 91 := by decide +kernel
theorem sg16_95 : Reader.signed 16 (0 * 256 + 95) = 95 := by decide +kernel
theorem sg16_102 : Reader.signed 16 (0 * 256 + 102) = 102 := by decide +kernel
theorem sg16_105 : Reader.signed 16 (0 * 256 + 105) = 105 := by decide +kernel
theorem sg16_106 : Reader.signed 16 (0 * 256 + 106) = 106 := by decide +kernel
theorem sg16_110 : Reader.signed 16 (0 * 256 + 110) = 110 := by decide +kernel
theorem sg16_123 : Reader.signed 16 (0 * 256 + 123) = 123 := by decide +kernel
theorem sg16_124 : Reader.signed 16 (0 * 256 + 124) = 124 := by decide +kernel
theorem sg16_125 : Reader.signed 16 (0 * 256 + 125) = 125 := by decide +kernel
theorem sg16_128 : Reader.signed 16 (0 * 256 + 128) = 128 := by decide +kernel
theorem sg16_130 : Reader.signed 16 (0 * 256 + 130) = 130 := by decide +kernel
theorem sg16_136 : Reader.signed 16 (0 * 256 + 136) = 136 := by decide +kernel
theorem sg16_153 : Reader.signed 16 (0 * 256 + 153) = 153 := by decide +kernel
theorem sg16_163 : Reader.signed 16 (0 * 256 + 163) = 163 := by decide +kernel
theorem sg16_192 : Reader.signed 16 (0 * 256 + 192) = 192 := by decide +kernel
theorem sg16_240 : Reader.signed 16 (0 * 256 + 240) = 240 := by decide +kernel
theorem sg16_320 : Reader.signed 16 (1 * 256 + 64) = 320 := by decide +kernel
theorem sg16_480 : Reader.signed 16 (1 * 256 + 224) = 480 := by decide +kernel
theorem sg16_999 : Reader.signed 16 (3 * 256 + 231) = 999 := by decide +kernel
theorem sg16_1000 : Reader.signed 16 (3 * 256 + 232) = 1000 := by decide +kernel
theorem sg16_65373 : Reader.signed 16 (255 * 256 + 93) = (-163) := by decide +kernel
theorem sg16_65383 : Reader.signed 16 (255 * 256 + 103) = (-153) := by decide +kernel
theorem sg16_65401 : Reader.signed 16 (255 * 256 + 121) = (-135) := by decide +kernel
theorem sg16_65403 : Reader.signed 16 (255 * 256 + 123) = (-133) := by decide +kernel
theorem sg16_65404 : Reader.signed 16 (255 * 256 + 124) = (-132) := by decide +kernel
theorem sg16_65408 : Reader.signed 16 (255 * 256 + 128) = (-128) := by decide +kernel
theorem sg16_65420 : Reader.signed 16 (255 * 256 + 140) = (-116) := by decide +kernel
theorem sg16_65427 : Reader.signed 16 (255 * 256 + 147) = (-109) := by decide +kernel
theorem sg16_65428 : Reader.signed 16 (255 * 256 + 148) = (-108) := by decide +kernel
theorem sg16_65434 : Reader.signed 16 (255 * 256 + 154) = (-102) := by decide +kernel
theorem sg16_65439 : Reader.signed 16 (255 * 256 + 159) = (-97) := by decide +kernel
theorem sg16_65446 : Reader.signed 16 (255 * 256 + 166) = (-90) := by decide +kernel
theorem sg16_65449 : Reader.signed 16 (255 * 256 + 169) = (-87) := by decide +kernel
theorem sg16_65454 : Reader.signed 16 (255 * 256 + 174) = (-82) := by decide +kernel
theorem sg16_65455 : Reader.signed 16 (255 * 256 + 175) = (-81) := by decide +kernel
theorem sg16_65457 : Reader.signed 16 (255 * 256 + 177) = (-79) := by decide +kernel
theorem sg16_65458 : Reader.signed 16 (255 * 256 + 178) = (-78) := by decide +kernel
theorem sg16_65459 : Reader.signed 16 (255 * 256 + 179) = (-77) := by decide +kernel
theorem sg16_65460 : Reader.signed 16 (255 * 256 + 180) = (-76) := by decide +kernel
theorem sg16_65463 : Reader.signed 16 (255 * 256 + 183) = (-73) := by decide +kernel
theorem sg16_65465 : Reader.signed 16 (255 * 256 + 185) = (-71) := by decide +kernel
theorem sg16_65466 : Reader.signed 16 (255 * 256 + 186) = (-70) := by decide +kernel
theorem sg16_65467 : Reader.signed 16 (255 * 256 + 187) = (-69) := by decide +kernel
theorem sg16_65470 : Reader.signed 16 (255 * 256 + 190) = (-66) := by decide +kernel
theorem sg16_65472 : Reader.signed 16 (255 * 256 + 192) = (-64) := by decide +kernel
theorem sg16_65473 : Reader.signed 16 (255 * 256 + 193) = (-63) := by decide +kernel
theorem sg16_65474 : Reader.signed 16 (255 * 256 + 194) = (-62) := by decide +kernel
theorem sg16_65475 : Reader.signed 16 (255 * 256 + 195) = (-61) := by decide +kernel
theorem sg16_65476 : Reader.signed 16 (255 * 256 + 196) = (-60) := by decide +kernel
theorem sg16_65477 : Reader.signed 16 (255 * 256 + 197) = (-59) := by decide +kernel
theorem sg16_65481 : Reader.signed 16 (255 * 256 + 201) = (-55) := by decide +kernel
theorem sg16_65483 : Reader.signed 16 (255 * 256 + 203) = (-53) := by decide +kernel
theorem sg16_65484 : Reader.signed 16 (255 * 256 + 204) = (-52) := by decide +kernel
theorem sg16_65485 : Reader.signed 16 (255 * 256 + 205) = (-51) := by decide +kernel
theorem sg16_65486 : Reader.signed 16 (255 * 256 + 206) = (-50) := by decide +kernel
theorem sg16_65487 : Reader.signed 16 (255 * 256 + 207) = (-49) := by decide +kernel
theorem sg16_65490 : Reader.signed 16 (255 * 256 + 210) = (-46) := by decide +kernel
theorem sg16_65492 : Reader.signed 16 (255 * 256 + 212) = (-44) := by decide +kernel
theorem sg16_65493 : Reader.signed 16 (255 * 256 + 213) = (-43) := by decide +kernel
theorem sg16_65494 : Reader.signed 16 (255 * 256 + 214) = (-42) := by decide +kernel
theorem sg16_65495 : Reader.signed 16 (255 * 256 + 215) = (-41) := by decide +kernel
theorem sg16_65496 : Reader.signed 16 (255 * 256 + 216) = (-40) := by decide +kernel
theorem sg16_65497 : Reader.signed 16 (255 * 256 + 217) = (-39) := by decide +kernel
theorem sg16_65498 : Reader.signed 16 (255 * 256 + 218) = (-38) := by decide +kernel
theorem sg16_65499 : Reader.signed 16 (255 * 256 + 219) = (-37) := by decide +kernel
theorem sg16_65502 : Reader.signed 16 (255 * 256 + 222) = (-34) := by decide +kernel
theorem sg16_65503 : Reader.signed 16 (255 * 256 + 223) = (-33) := by decide +kernel
theorem sg16_65504 : Reader.signed 16 (255 * 256 + 224) = (-32) := by decide +kernel
theorem sg16_65507 : Reader.signed 16 (255 * 256 + 227) = (-29) := by decide +kernel
theorem sg16_65508 : Reader.signed 16 (255 * 256 + 228) = (-28) := by decide +kernel
theorem sg16_65509 : Reader.signed 16 (255 * 256 + 229) = (-27) := by decide +kernel
theorem sg16_65510 : Reader.signed 16 (255 * 256 + 230) = (-26) := by decide +kernel
theorem sg16_65511 : Reader.signed 16 (255 * 256 + 231) = (-25) := by decide +kernel
theorem sg16_65512 : Reader.signed 16 (255 * 256 + 232) = (-24) := by decide +kernel
theorem sg16_65513 : Reader.signed 16 (255 * 256 + 233) = (-23) := by decide +kernel
theorem sg16_65514 : Reader.signed 16 (255 * 256 + 234) = (-22) := by decide +kernel
theorem sg16_65515 : Reader.signed 16 (255 * 256 + 235) = (-21) := by decide +kernel
theorem sg16_65516 : Reader.signed 16 (255 * 256 + 236) = (-20) := by decide +kernel
theorem sg16_65517 : Reader.signed 16 (255 * 256 + 237) = (-19) := by decide +kernel
theorem sg16_65518 : Reader.signed 16 (255 * 256 + 238) = (-18) := by decide +kernel
theorem sg16_65519 : Reader.signed 16 (255 * 256 + 239) = (-17) := by decide +kernel
theorem sg16_65520 : Reader.signed 16 (255 * 256 + 240) = (-16) := by decide +kernel
theorem sg16_65522 : Reader.signed 16 (255 * 256 + 242) = (-14) := by decide +kernel
theorem sg16_65524 : Reader.signed 16 (255 * 256 + 244) = (-12) := by decide +kernel
