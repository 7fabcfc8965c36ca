-- ===== a new town: its money =====
theorem tot_le {f : Nat → Int32} {c : Int} : ∀ n : Nat, (∀ x : Nat, x < n → (f x).toInt ≤ c) → tot f n ≤ c * (n : Int) := by
  intro n
  induction n with
  | zero => intro _; show (0 : Int) ≤ c * ((0 : Nat) : Int); omega
  | succ n ih =>
    intro h
    have h1 := ih (fun x hx => h x (Nat.lt_succ_of_lt hx))
    have h2 := h n (Nat.lt_succ_self n)
    show tot f n + (f n).toInt ≤ c * ((n + 1 : Nat) : Int)
    have e : c * ((n + 1 : Nat) : Int) = c * (n : Int) + c := by
      rw [Int.natCast_add, Int.mul_add]
      simp
    omega
theorem town_mon {T : Int} {mux mum xi1 xi2 : Nat → Nat → Int32} (hT : 693 ≤ T) (h : (simK xi1 xi2 ∧ endR xi2 ∧ newT xi1 xi2) ∨ ((∀ k f : Nat, gpX k f ≠ 0 → xi1 k f = mux k f) ∧ (∀ k f : Nat, gpM k f ≠ 0 → xi2 k f = mum k f))) (hm : mon T mum) : mon T xi2 := by
  rcases h with ⟨-, -, -, -, ⟨-, -, y4, y6⟩, k, hb, hp⟩ | ⟨-, b⟩
  · refine ⟨⟨fun x hx => (hp x hx).1, ?_⟩, fun k hk => ?_, fun s hs => ?_, fun j hj => Or.inl (k j hj).2⟩
    · have h1 := tot_le (c := 99) (xi2 0 8).toNatClampNeg (fun x hx => (hp x hx).2)
      have h2 : (xi2 0 8).toNatClampNeg ≤ 7 := by
        by_cases c : 0 ≤ (xi2 0 8).toInt
        · have := tC_of c
          omega
        · have e : (xi2 0 8).toNatClampNeg = (xi2 0 8).toInt.toNat := rfl
          omega
      omega
    · rw [y4] at hk; exact absurd hk (Nat.not_lt_zero _)
    · rw [y6] at hs; exact absurd hs (Nat.not_lt_zero _)
  · exact mon_of hm (b 0 8 (by decide)) (b 0 15 (by decide)) (b 0 17 (by decide)) (funext fun f => b 8 f (by show (3 : Nat) ≠ 0; decide)) (funext fun f => b 10 f (by show (3 : Nat) ≠ 0; decide)) (funext fun f => b 14 f (by show (4 : Nat) ≠ 0; decide)) (funext fun f => b 15 f (by show (5 : Nat) ≠ 0; decide))

