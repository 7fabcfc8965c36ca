-- ===== the core of both tables =====
theorem buyers_eq {mux mum : Nat → Nat → Int32} {k : Int32} (hk : 0 ≤ k.toInt ∧ k.toInt ≤ 3) (hK : simK mux mum) (hb : 0 ≤ (mum 0 8).toInt ∧ (mum 0 8).toInt ≤ 7) (hp : 0 ≤ (mum 0 11).toInt ∧ (mum 0 11).toInt ≤ 12) (he : ∀ j : Nat, j < (mum 0 11).toNatClampNeg → (0 ≤ (mum 9 (2 * j)).toInt ∧ (mum 9 (2 * j)).toInt < (mum 0 8).toInt) ∧ (0 ≤ (mum 9 (2 * j + 1)).toInt ∧ (mum 9 (2 * j + 1)).toInt < (mum 0 8).toInt)) (hP : ∀ x : Nat, x < (mum 0 8).toNatClampNeg → mux 46 x = mum 8 x) (hs : mux 5 2 = mum 0 13) (hd : mux 5 3 = mum 0 14) (h : oneR (mum 0 8).toInt (mux (61 + k.toNatClampNeg)) (mum 10) k.toNatClampNeg) : F_sx_buyersOf mux (61 + k.toNatClampNeg) = F_sm_canSell mum k := by
  have h0 := h
  obtain ⟨f, f1, f5, f9⟩ := h
  have h9 : mux (61 + k.toNatClampNeg) 9 = mum 10 (10 * k.toNatClampNeg + 9) := f 9 (by decide)
  have h7 : mux (61 + k.toNatClampNeg) 7 = mum 10 (10 * k.toNatClampNeg + 8) := f 7 (by decide)
  have h5 : mux (61 + k.toNatClampNeg) 5 = mum 10 (10 * k.toNatClampNeg + 5) := f 5 (by decide)
  have e9 : F_sm_isRead mum k = mux (61 + k.toNatClampNeg) 9 := by
    simp only [F_sm_isRead, letv_eq]
    rw [fm_letterOf hk (by decide), show (9 : Int32).toNatClampNeg = 9 from rfl, ← h9]
    rcases f9 with e | e <;> rw [e] <;> decide
  simp only [F_sx_buyersOf, F_sm_canSell, letv_eq]
  rw [e9]
  by_cases c : mux (61 + k.toNatClampNeg) 9 = 0
  · rw [if_pos c, if_pos c, fm_letterOf hk (by decide), show (8 : Int32).toNatClampNeg = 8 from rfl, ← h7, hd]
    by_cases c2 : mux (61 + k.toNatClampNeg) 7 = mum 0 14
    · rw [if_pos c2, if_pos c2]
    · rw [if_neg c2, if_neg c2, price_eq hk hK hb h0, fm_letterOf5 hk, ← h5, near_eq hK hp hs]
      refine buy_loop hk hK hb hP rfl h0 ?_ 10 _ 0 0 (by decide) (by show (0 : Int) ≤ _; exact hb.1) (by decide) (fun j hj => ?_) (fun j hj hq => ?_)
      · intro j hj hq
        exact near_rng hp he hb 15 0 0 (by decide) (by decide) (fun j hj hq => by rw [b_zero j hj] at hq; cases hq) j hj hq
      · rw [if_neg (by show ¬ (j : Int) < 0; omega)]
      · rw [b_zero j hj] at hq
        cases hq
  · rw [if_neg c, if_neg c]
def salN (n : Nat) (mux mum : Nat → Nat → Int32) : Prop := ∀ s : Nat, s < n → (mux (77 + s) 1 = mum 14 (12 * s) ∧ 0 ≤ (mum 14 (12 * s)).toInt ∧ (mum 14 (12 * s)).toInt < (mum 0 15).toInt) ∧ (mux (77 + s) 2 = mum 14 (12 * s + 1) ∧ 0 ≤ (mum 14 (12 * s + 1)).toInt ∧ (mum 14 (12 * s + 1)).toInt < (mum 0 8).toInt) ∧ mux (77 + s) 5 = mum 14 (12 * s + 2) ∧ mux (77 + s) 6 = mum 14 (12 * s + 3) ∧ mux (77 + s) 4 = mum 14 (12 * s + 4) ∧ ∀ x : Nat, x < (mum 0 8).toNatClampNeg → mux (117 + s) x = mum 14 (12 * s + 5 + x)
def salR (mux mum : Nat → Nat → Int32) : Prop := salN (mum 0 17).toNatClampNeg mux mum
def kepR (mux mum : Nat → Nat → Int32) : Prop := ∀ j : Nat, j < 3 → (mux (18 + j) 5 = 0 ∧ mum 15 (64 * j) = -9) ∨ (¬ mux (18 + j) 5 = 0 ∧ (0 ≤ (mum 15 (64 * j)).toInt ∧ (mum 15 (64 * j)).toInt ≤ 99) ∧ mux (18 + j) 3 = mum 15 (64 * j) ∧ mux (18 + j) 2 = mum 15 (64 * j + 1) ∧ mux (18 + j) 4 = mum 15 (64 * j + 2) ∧ (0 ≤ (mum 15 (64 * j + 2)).toInt ∧ (mum 15 (64 * j + 2)).toInt ≤ 4) ∧ (∀ x : Nat, x < (mum 0 8).toNatClampNeg → mux (40 + j) x = mum 15 (64 * j + 3 + x)) ∧ letR (mum 0 8).toInt (mum 15 (64 * j + 2)).toNatClampNeg (fun k => mux (65 + 4 * j + k)) (fun i => mum 15 (64 * j + 10 + i)))
def core (mux mum : Nat → Nat → Int32) : Prop := simK mux mum ∧ endR mum ∧ (mux 5 2 = mum 0 13 ∧ mux 5 3 = mum 0 14 ∧ mux 5 4 = mum 0 15 ∧ mux 6 1 = mum 0 17) ∧ (0 ≤ (mum 0 14).toInt ∧ (mum 0 14).toInt ≤ 99) ∧ (∀ x : Nat, x < (mum 0 8).toNatClampNeg → mux 46 x = mum 8 x) ∧ letR (mum 0 8).toInt (mum 0 15).toNatClampNeg (fun k => mux (61 + k)) (mum 10) ∧ salR mux mum ∧ kepR mux mum
def bdM (mum : Nat → Nat → Int32) : Prop := (0 ≤ (mum 0 8).toInt ∧ (mum 0 8).toInt ≤ 7) ∧ (0 ≤ (mum 0 11).toInt ∧ (mum 0 11).toInt ≤ 12) ∧ (0 ≤ (mum 0 15).toInt ∧ (mum 0 15).toInt ≤ 4) ∧ (0 ≤ (mum 0 17).toInt ∧ (mum 0 17).toInt ≤ 40)
theorem bd_of {mum : Nat → Nat → Int32} (okm : okR loM hiM mum) : bdM mum := ⟨okm 0 8, okm 0 11, okm 0 15, okm 0 17⟩
theorem letR_of {B : Int} {n : Nat} {lx lx' : Nat → Nat → Int32} {lm lm' : Nat → Int32} (h : letR B n lx lm) (h1 : ∀ k : Nat, k < n → lx' k = lx k) (h2 : ∀ k : Nat, k < n → ∀ f : Nat, f < 10 → lm' (10 * k + f) = lm (10 * k + f)) : letR B n lx' lm' := by
  intro k hk
  obtain ⟨a, b, c, d⟩ := h k hk
  have pl : ∀ f : Nat, f < 10 → pfm f < 10 := by decide
  rw [h1 k hk]
  exact ⟨fun f hf => by rw [a f hf, h2 k hk _ (pl f hf)], b, c, d⟩
theorem kepR_of {mux mum xi1 xi2 : Nat → Nat → Int32} (h : kepR mux mum) (h1 : ∀ c : Nat, (18 ≤ c ∧ c < 21) ∨ (40 ≤ c ∧ c < 43) ∨ (65 ≤ c ∧ c < 77) → xi1 c = mux c) (h2 : xi2 15 = mum 15) (h3 : xi2 0 8 = mum 0 8) : kepR xi1 xi2 := by
  intro j hj
  rw [h2, h3, h1 (18 + j) (by omega), h1 (40 + j) (by omega)]
  rcases h j hj with a | ⟨a, b, c, d, e, e2, p, l⟩
  · exact Or.inl a
  · refine Or.inr ⟨a, b, c, d, e, e2, p, letR_of l (fun k hk => h1 _ ?_) (fun k hk f hf => rfl)⟩
    have := tC_of e2.1
    omega
theorem purse_two {A A' : Nat → Int32} {n x h : Nat} {p : Int32} (hA : ∀ z : Nat, z < n → A z = A' z) (hx : x < n) (hh : h < n) : ∀ z : Nat, z < n → upd (upd A x (A x - p)) h (upd A x (A x - p) h + p) z = upd (upd A' x (A' x - p)) h (upd A' x (A' x - p) h + p) z := by
  intro z hz
  simp only [upd]
  rw [hA x hx, hA h hh, hA z hz]
theorem sale_rel {mux mum xi1 xi2 : Nat → Nat → Int32} {k x r : Int32} (bd : bdM mum) (hC : core mux mum) (hk : 0 ≤ k.toInt ∧ k.toInt < (mum 0 15).toInt) (hx : 0 ≤ x.toInt ∧ x.toInt < (mum 0 8).toInt) (hn : (mum 0 17).toInt < 40) (h1 : (r, xi1) = F_sx_enterSale mux k x) (h2 : xi2 = F_sm_sellTo mum k x) : r = F_sm_priceOf mum k ∧ core xi1 xi2 ∧ xi1 (61 + k.toNatClampNeg) 9 = xi2 10 (10 * k.toNatClampNeg + 9) ∧ (∀ f : Nat, f ≠ 17 → xi2 0 f = mum 0 f) ∧ (xi2 0 17 = mum 0 17 + 1) ∧ xi1 5 = mux 5 := by
  obtain ⟨hK, hE, ⟨s2, s3, s4, s6⟩, hday, hP, hL, hS, hA⟩ := hC
  obtain ⟨hb, hpa, hsent, hled⟩ := bd
  have ck := tC_of hk.1
  have cx := tC_of hx.1
  have cb := tC_of hb.1
  have cs := tC_of hsent.1
  have cl := tC_of hled.1
  have hk3 : 0 ≤ k.toInt ∧ k.toInt ≤ 3 := ⟨hk.1, by omega⟩
  obtain ⟨lf, l1, l5, l9⟩ : oneR (mum 0 8).toInt (mux (61 + k.toNatClampNeg)) (mum 10) k.toNatClampNeg := hL k.toNatClampNeg (by omega)
  have pe := price_eq hk3 hK hb ⟨lf, l1, l5, l9⟩
  obtain ⟨x1, x2, x3, ⟨x41, x42, x43, x44, x45, x46⟩, x5, x6, x7, x8, x9, x10, x11, x12⟩ := es_x (by omega) (by rw [s6]; omega) h1
  obtain ⟨m1, m2, m3, m4, ⟨m51, m52, m53, m54, m55⟩, m6, m7, m8, m9, m10, m11, m12, m13⟩ := es_m hk3 ⟨hled.1, hn⟩ h2
  rw [s6] at x2 x3 x41 x42 x43 x44 x45 x46 x5
  rw [pe] at x1
  rw [← x1] at m7 m10 m55
  have g5 : mux (61 + k.toNatClampNeg) 5 = mum 10 (10 * k.toNatClampNeg + 5) := lf 5 (by decide)
  have g6 : mux (61 + k.toNatClampNeg) 6 = mum 10 (10 * k.toNatClampNeg + 6) := lf 6 (by decide)
  have g7 : mux (61 + k.toNatClampNeg) 7 = mum 10 (10 * k.toNatClampNeg + 8) := lf 7 (by decide)
  have g8 : mux (61 + k.toNatClampNeg) 8 = mum 10 (10 * k.toNatClampNeg + 7) := lf 8 (by decide)
  have g1 : mux (61 + k.toNatClampNeg) 1 = mum 10 (10 * k.toNatClampNeg + 1) := lf 1 (by decide)
  have c5 := tC_of l5.1
  have fx : ∀ c : Nat, c < 6 ∨ (6 < c ∧ c < 46) ∨ (46 < c ∧ c < 61) ∨ (65 ≤ c ∧ c < 77) → xi1 c = mux c := fun c hc => x2 c (by omega) (by omega) (by omega) (by omega) (by omega)
  have e17 : (mum 0 17 + 1 : Int32).toInt = (mum 0 17).toInt + 1 := tI_add rfl (rfl : (1 : Int32).toInt = 1) (by omega) (by omega)
  have c17 := tC_of (v := mum 0 17 + 1) (by omega)
  have e9 : xi1 (61 + k.toNatClampNeg) 9 = xi2 10 (10 * k.toNatClampNeg + 9) := by rw [x12, m13, g1]
  refine ⟨x1, ⟨?_, ?_, ⟨?_, ?_, ?_, ?_⟩, ?_, ?_, ?_, ?_, ?_⟩, e9, m2, m3, fx 5 (by omega)⟩
  · unfold simK
    rw [fx 4 (by omega), fx 34 (by omega), fx 35 (by omega), fx 36 (by omega), m2 8 (by decide), m2 11 (by decide), m1 7 (by decide) (by decide) (by decide) (by decide), m1 9 (by decide) (by decide) (by decide) (by decide)]
    exact hK
  · unfold endR
    rw [m2 8 (by decide), m2 11 (by decide), m1 9 (by decide) (by decide) (by decide) (by decide)]
    exact hE
  · rw [fx 5 (by omega), m2 13 (by decide)]; exact s2
  · rw [fx 5 (by omega), m2 14 (by decide)]; exact s3
  · rw [fx 5 (by omega), m2 15 (by decide)]; exact s4
  · rw [x5, m3]
  · rw [m2 14 (by decide)]; exact hday
  · rw [m2 8 (by decide), x6, m7, g5]
    exact purse_two hP (by omega) (by rw [← g5]; omega)
  · rw [m2 8 (by decide), m2 15 (by decide)]
    intro q hq
    by_cases e : q = k.toNatClampNeg
    · subst e
      show (∀ f : Nat, f < 10 → xi1 (61 + k.toNatClampNeg) f = xi2 10 (10 * k.toNatClampNeg + pfm f)) ∧ (0 ≤ (xi1 (61 + k.toNatClampNeg) 1).toInt ∧ (xi1 (61 + k.toNatClampNeg) 1).toInt < (mum 0 8).toInt) ∧ (0 ≤ (xi1 (61 + k.toNatClampNeg) 5).toInt ∧ (xi1 (61 + k.toNatClampNeg) 5).toInt < (mum 0 8).toInt) ∧ (xi1 (61 + k.toNatClampNeg) 9 = 0 ∨ xi1 (61 + k.toNatClampNeg) 9 = 1)
      refine ⟨fun f hf => ?_, ?_, ?_, ?_⟩
      · by_cases f5 : f < 5
        · have pf : pfm f = f := by
            unfold pfm
            rw [if_neg (by omega), if_neg (by omega)]
          rw [x7 f f5, pf, m8 _ (Or.inl (by omega)), lf f hf, pf]
        · have : f = 5 ∨ f = 6 ∨ f = 7 ∨ f = 8 ∨ f = 9 := by omega
          rcases this with rfl | rfl | rfl | rfl | rfl
          · exact x8.trans m9.symm
          · exact x9.trans m10.symm
          · exact (x10.trans s3).trans m12.symm
          · exact (x11.trans (by rw [g8])).trans m11.symm
          · exact e9
      · rw [x7 1 (by decide)]; exact l1
      · rw [x8]; exact hx
      · rw [x12]
        split
        · exact Or.inr rfl
        · exact Or.inl rfl
    · obtain ⟨qf, q1, q5, q9⟩ : oneR (mum 0 8).toInt (mux (61 + q)) (mum 10) q := hL q hq
      have eq1 : xi1 (61 + q) = mux (61 + q) := x2 _ (by omega) (by omega) (by omega) (by omega) (by omega)
      have pl : ∀ f : Nat, f < 10 → pfm f < 10 := by decide
      show (∀ f : Nat, f < 10 → xi1 (61 + q) f = xi2 10 (10 * q + pfm f)) ∧ (0 ≤ (xi1 (61 + q) 1).toInt ∧ (xi1 (61 + q) 1).toInt < (mum 0 8).toInt) ∧ (0 ≤ (xi1 (61 + q) 5).toInt ∧ (xi1 (61 + q) 5).toInt < (mum 0 8).toInt) ∧ (xi1 (61 + q) 9 = 0 ∨ xi1 (61 + q) 9 = 1)
      rw [eq1]
      refine ⟨fun f hf => ?_, q1, q5, q9⟩
      have := pl f hf
      rw [m8 _ (by omega)]
      exact qf f hf
  · unfold salR salN
    rw [m3, m2 8 (by decide), m2 15 (by decide)]
    intro s hs
    by_cases e : s = (mum 0 17).toNatClampNeg
    · subst e
      rw [x41, x42, x44, x45, x46, m51, m52, m53, m54, m55, g5, g6, g7]
      refine ⟨⟨rfl, hk.1, hk.2⟩, ⟨rfl, by rw [← g5]; exact l5.1, by rw [← g5]; exact l5.2⟩, rfl, rfl, rfl, fun z hz => ?_⟩
      rw [x3 z (by omega), m6 z (by omega)]
      exact hP z hz
    · obtain ⟨a, b, c, d, f, g⟩ := hS s (by omega)
      have eq1 : xi1 (77 + s) = mux (77 + s) := x2 _ (by omega) (by omega) (by omega) (by omega) (by omega)
      have eq2 : xi1 (117 + s) = mux (117 + s) := x2 _ (by omega) (by omega) (by omega) (by omega) (by omega)
      rw [eq1, eq2, m4 _ (Or.inl (by omega)), m4 _ (Or.inl (by omega)), m4 _ (Or.inl (by omega)), m4 _ (Or.inl (by omega)), m4 _ (Or.inl (by omega))]
      refine ⟨a, b, c, d, f, fun z hz => ?_⟩
      rw [m4 _ (Or.inl (by omega))]
      exact g z hz
  · exact kepR_of hA (fun c hc => fx c (by omega)) (m1 15 (by decide) (by decide) (by decide) (by decide)) (m2 8 (by decide))

