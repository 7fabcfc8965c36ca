-- ===== a sale entered =====
theorem letv_out {α β : Type} {e : α} {K : α → β} {z : β} (h : z = LETV e K) : ∃ t : α, e = t ∧ z = K t := ⟨e, rfl, h⟩
theorem letp_out {α γ β : Type} {p : α × γ} {K : α → γ → β} {z : β} (h : z = LETP p K) : ∃ (a : α) (b : γ), p = (a, b) ∧ z = K a b := ⟨p.1, p.2, rfl, h⟩
theorem up_c {mu nu : Nat → Nat → Int32} {k : Nat} {g : Nat → Int32} (h : va_up mu k g = nu) : nu k = g := by
  rw [← h]
  simp [va_up]
theorem es_x {mu : Nat → Nat → Int32} {vk vx r : Int32} {xi : Nat → Nat → Int32} (hk : vk.toNatClampNeg < 4) (hn : (mu 6 1).toNatClampNeg < 40) (h : (r, xi) = F_sx_enterSale mu vk vx) : r = F_sx_priceOf mu (61 + vk.toNatClampNeg) ∧ (∀ c : Nat, c ≠ 117 + (mu 6 1).toNatClampNeg → c ≠ 77 + (mu 6 1).toNatClampNeg → c ≠ 6 → c ≠ 46 → c ≠ 61 + vk.toNatClampNeg → xi c = mu c) ∧ (∀ x : Nat, x < 7 → xi (117 + (mu 6 1).toNatClampNeg) x = mu 46 x) ∧ (xi (77 + (mu 6 1).toNatClampNeg) 1 = vk ∧ xi (77 + (mu 6 1).toNatClampNeg) 2 = mu (61 + vk.toNatClampNeg) 5 ∧ xi (77 + (mu 6 1).toNatClampNeg) 3 = vx ∧ xi (77 + (mu 6 1).toNatClampNeg) 4 = r ∧ xi (77 + (mu 6 1).toNatClampNeg) 5 = mu (61 + vk.toNatClampNeg) 6 ∧ xi (77 + (mu 6 1).toNatClampNeg) 6 = mu (61 + vk.toNatClampNeg) 7) ∧ xi 6 1 = mu 6 1 + 1 ∧ xi 46 = upd (upd (mu 46) vx.toNatClampNeg (mu 46 vx.toNatClampNeg - r)) (mu (61 + vk.toNatClampNeg) 5).toNatClampNeg (upd (mu 46) vx.toNatClampNeg (mu 46 vx.toNatClampNeg - r) (mu (61 + vk.toNatClampNeg) 5).toNatClampNeg + r) ∧ (∀ f : Nat, f < 5 → xi (61 + vk.toNatClampNeg) f = mu (61 + vk.toNatClampNeg) f) ∧ xi (61 + vk.toNatClampNeg) 5 = vx ∧ xi (61 + vk.toNatClampNeg) 6 = r ∧ xi (61 + vk.toNatClampNeg) 7 = mu 5 3 ∧ xi (61 + vk.toNatClampNeg) 8 = mu (61 + vk.toNatClampNeg) 8 + 1 ∧ xi (61 + vk.toNatClampNeg) 9 = (if vx = mu (61 + vk.toNatClampNeg) 1 then 1 else 0) := by
  unfold F_sx_enterSale at h
  obtain ⟨r2, e_r2, h⟩ := letv_out h
  obtain ⟨y3, e_y3, h⟩ := letv_out h
  obtain ⟨nu6, e_nu6, h⟩ := letv_out h
  obtain ⟨nu9, e_nu9, h⟩ := letv_out h
  obtain ⟨y13, e_y13, h⟩ := letv_out h
  obtain ⟨nu14, e_nu14, h⟩ := letv_out h
  obtain ⟨nu20, e_nu20, h⟩ := letv_out h
  obtain ⟨nu27, e_nu27, h⟩ := letv_out h
  obtain ⟨y35, e_y35, h⟩ := letv_out h
  obtain ⟨nu36, e_nu36, h⟩ := letv_out h
  obtain ⟨y46, e_y46, h⟩ := letv_out h
  obtain ⟨nu47, e_nu47, h⟩ := letv_out h
  obtain ⟨t59, e_t59, h⟩ := letv_out h
  obtain ⟨nu60, e_nu60, h⟩ := letv_out h
  obtain ⟨y72, e_y72, h⟩ := letv_out h
  obtain ⟨t73, e_t73, h⟩ := letv_out h
  obtain ⟨nu74, e_nu74, h⟩ := letv_out h
  obtain ⟨y86, e_y86, h⟩ := letv_out h
  obtain ⟨t87, e_t87, h⟩ := letv_out h
  obtain ⟨nu88, e_nu88, h⟩ := letv_out h
  obtain ⟨nu100, e_nu100, h⟩ := letv_out h
  obtain ⟨nu112, e_nu112, h⟩ := letv_out h
  obtain ⟨y124, e_y124, h⟩ := letv_out h
  obtain ⟨nu125, e_nu125, h⟩ := letv_out h
  obtain ⟨y138, e_y138, h⟩ := letv_out h
  obtain ⟨t139, e_t139, h⟩ := letv_out h
  obtain ⟨nu140, e_nu140, h⟩ := letv_out h
  obtain ⟨y154, e_y154, h⟩ := letv_out h
  have hy3 : y3.toNatClampNeg < 40 := by rw [← e_y3]; exact hn
  have q_y13 : y13 = mu (61 + vk.toNatClampNeg) 5 := e_y13.symm.trans ((congrFun (up_k e_nu9 (by omega)) 5).trans (congrFun (up_k e_nu6 (by omega)) 5))
  have q_y35 : y35 = mu (61 + vk.toNatClampNeg) 6 := e_y35.symm.trans ((congrFun (up_k e_nu27 (by omega)) 6).trans ((congrFun (up_k e_nu20 (by omega)) 6).trans ((congrFun (up_k e_nu14 (by omega)) 6).trans ((congrFun (up_k e_nu9 (by omega)) 6).trans (congrFun (up_k e_nu6 (by omega)) 6)))))
  have q_y46 : y46 = mu (61 + vk.toNatClampNeg) 7 := e_y46.symm.trans ((congrFun (up_k e_nu36 (by omega)) 7).trans ((congrFun (up_k e_nu27 (by omega)) 7).trans ((congrFun (up_k e_nu20 (by omega)) 7).trans ((congrFun (up_k e_nu14 (by omega)) 7).trans ((congrFun (up_k e_nu9 (by omega)) 7).trans (congrFun (up_k e_nu6 (by omega)) 7))))))
  have q_y138 : y138 = mu (61 + vk.toNatClampNeg) 8 := e_y138.symm.trans ((up_f e_nu125 (by omega)).trans ((up_f e_nu112 (by omega)).trans ((up_f e_nu100 (by omega)).trans ((congrFun (up_k e_nu88 (by omega)) 8).trans ((congrFun (up_k e_nu74 (by omega)) 8).trans ((congrFun (up_k e_nu60 (by omega)) 8).trans ((congrFun (up_k e_nu47 (by omega)) 8).trans ((congrFun (up_k e_nu36 (by omega)) 8).trans ((congrFun (up_k e_nu27 (by omega)) 8).trans ((congrFun (up_k e_nu20 (by omega)) 8).trans ((congrFun (up_k e_nu14 (by omega)) 8).trans ((congrFun (up_k e_nu9 (by omega)) 8).trans (congrFun (up_k e_nu6 (by omega)) 8)))))))))))))
  have q_y124 : y124 = mu 5 3 := e_y124.symm.trans ((congrFun (up_k e_nu112 (by omega)) 3).trans ((congrFun (up_k e_nu100 (by omega)) 3).trans ((congrFun (up_k e_nu88 (by omega)) 3).trans ((congrFun (up_k e_nu74 (by omega)) 3).trans ((congrFun (up_k e_nu60 (by omega)) 3).trans ((congrFun (up_k e_nu47 (by omega)) 3).trans ((congrFun (up_k e_nu36 (by omega)) 3).trans ((congrFun (up_k e_nu27 (by omega)) 3).trans ((congrFun (up_k e_nu20 (by omega)) 3).trans ((congrFun (up_k e_nu14 (by omega)) 3).trans ((congrFun (up_k e_nu9 (by omega)) 3).trans (congrFun (up_k e_nu6 (by omega)) 3))))))))))))
  have q_y154 : y154 = mu (61 + vk.toNatClampNeg) 1 := e_y154.symm.trans ((up_f e_nu140 (by omega)).trans ((up_f e_nu125 (by omega)).trans ((up_f e_nu112 (by omega)).trans ((up_f e_nu100 (by omega)).trans ((congrFun (up_k e_nu88 (by omega)) 1).trans ((congrFun (up_k e_nu74 (by omega)) 1).trans ((congrFun (up_k e_nu60 (by omega)) 1).trans ((congrFun (up_k e_nu47 (by omega)) 1).trans ((congrFun (up_k e_nu36 (by omega)) 1).trans ((congrFun (up_k e_nu27 (by omega)) 1).trans ((congrFun (up_k e_nu20 (by omega)) 1).trans ((congrFun (up_k e_nu14 (by omega)) 1).trans ((congrFun (up_k e_nu9 (by omega)) 1).trans (congrFun (up_k e_nu6 (by omega)) 1))))))))))))))
  have q_y72 : y72 = mu 46 vx.toNatClampNeg := e_y72.symm.trans (congrFun ((up_k e_nu60 (by omega)).trans ((up_k e_nu47 (by omega)).trans ((up_k e_nu36 (by omega)).trans ((up_k e_nu27 (by omega)).trans ((up_k e_nu20 (by omega)).trans ((up_k e_nu14 (by omega)).trans ((up_k e_nu9 (by omega)).trans (up_k e_nu6 (by omega))))))))) _)
  have q_y86 : y86 = upd (mu 46) vx.toNatClampNeg t73 y13.toNatClampNeg := e_y86.symm.trans (congrFun ((up_c e_nu74).trans (by rw [(up_k e_nu60 (by omega)).trans ((up_k e_nu47 (by omega)).trans ((up_k e_nu36 (by omega)).trans ((up_k e_nu27 (by omega)).trans ((up_k e_nu20 (by omega)).trans ((up_k e_nu14 (by omega)).trans ((up_k e_nu9 (by omega)).trans (up_k e_nu6 (by omega))))))))])) _)
  have q_t73 := e_t73.symm
  have q_t87 := e_t87.symm
  have q_t59 := e_t59.symm
  have q_t139 := e_t139.symm
  by_cases c : vx = y154
  · rw [if_pos c] at h
    obtain ⟨nu172, e_nu172, h⟩ := letv_out h
    obtain ⟨hr, hxi⟩ := Prod.mk.inj h
    subst hr hxi
    rw [e_y3]
    refine ⟨e_r2.symm, fun c h1 h2 h3 h4 h5 => ?_, fun x hx => ?_, ⟨?_, ?_, ?_, ?_, ?_, ?_⟩, ?_, ?_, fun f hf => ?_, ?_, ?_, ?_, ?_, ?_⟩
    · rw [show 117 + y3.toNatClampNeg = 77 + y3.toNatClampNeg + 40 by omega] at h1
      exact (up_k e_nu172 h5).trans ((up_k e_nu140 h5).trans ((up_k e_nu125 h5).trans ((up_k e_nu112 h5).trans ((up_k e_nu100 h5).trans ((up_k e_nu88 h4).trans ((up_k e_nu74 h4).trans ((up_k e_nu60 h3).trans ((up_k e_nu47 h2).trans ((up_k e_nu36 h2).trans ((up_k e_nu27 h2).trans ((up_k e_nu20 h2).trans ((up_k e_nu14 h2).trans ((up_k e_nu9 h2).trans (up_k e_nu6 h1))))))))))))))
    · rw [show 117 + y3.toNatClampNeg = 77 + y3.toNatClampNeg + 40 by omega, show xi (77 + y3.toNatClampNeg + 40) = _ from (up_k e_nu172 (by omega)).trans ((up_k e_nu140 (by omega)).trans ((up_k e_nu125 (by omega)).trans ((up_k e_nu112 (by omega)).trans ((up_k e_nu100 (by omega)).trans ((up_k e_nu88 (by omega)).trans ((up_k e_nu74 (by omega)).trans ((up_k e_nu60 (by omega)).trans ((up_k e_nu47 (by omega)).trans ((up_k e_nu36 (by omega)).trans ((up_k e_nu27 (by omega)).trans ((up_k e_nu20 (by omega)).trans ((up_k e_nu14 (by omega)).trans (up_k e_nu9 (by omega)))))))))))))), up_c e_nu6]
      show (if (0 : Nat) ≤ x ∧ x < 0 + 7 then mu 46 (0 + (x - 0)) else _) = _
      rw [if_pos ⟨Nat.zero_le _, by omega⟩, Nat.zero_add, Nat.sub_zero]
    · exact (congrFun (up_k e_nu172 (by omega)) 1).trans ((congrFun (up_k e_nu140 (by omega)) 1).trans ((congrFun (up_k e_nu125 (by omega)) 1).trans ((congrFun (up_k e_nu112 (by omega)) 1).trans ((congrFun (up_k e_nu100 (by omega)) 1).trans ((congrFun (up_k e_nu88 (by omega)) 1).trans ((congrFun (up_k e_nu74 (by omega)) 1).trans ((congrFun (up_k e_nu60 (by omega)) 1).trans ((up_f e_nu47 (by omega)).trans ((up_f e_nu36 (by omega)).trans ((up_f e_nu27 (by omega)).trans ((up_f e_nu20 (by omega)).trans ((up_f e_nu14 (by omega)).trans ((up_v e_nu9).symm)))))))))))))
    · exact ((congrFun (up_k e_nu172 (by omega)) 2).trans ((congrFun (up_k e_nu140 (by omega)) 2).trans ((congrFun (up_k e_nu125 (by omega)) 2).trans ((congrFun (up_k e_nu112 (by omega)) 2).trans ((congrFun (up_k e_nu100 (by omega)) 2).trans ((congrFun (up_k e_nu88 (by omega)) 2).trans ((congrFun (up_k e_nu74 (by omega)) 2).trans ((congrFun (up_k e_nu60 (by omega)) 2).trans ((up_f e_nu47 (by omega)).trans ((up_f e_nu36 (by omega)).trans ((up_f e_nu27 (by omega)).trans ((up_f e_nu20 (by omega)).trans ((up_v e_nu14).symm))))))))))))).trans q_y13
    · exact (congrFun (up_k e_nu172 (by omega)) 3).trans ((congrFun (up_k e_nu140 (by omega)) 3).trans ((congrFun (up_k e_nu125 (by omega)) 3).trans ((congrFun (up_k e_nu112 (by omega)) 3).trans ((congrFun (up_k e_nu100 (by omega)) 3).trans ((congrFun (up_k e_nu88 (by omega)) 3).trans ((congrFun (up_k e_nu74 (by omega)) 3).trans ((congrFun (up_k e_nu60 (by omega)) 3).trans ((up_f e_nu47 (by omega)).trans ((up_f e_nu36 (by omega)).trans ((up_f e_nu27 (by omega)).trans ((up_v e_nu20).symm)))))))))))
    · exact (congrFun (up_k e_nu172 (by omega)) 4).trans ((congrFun (up_k e_nu140 (by omega)) 4).trans ((congrFun (up_k e_nu125 (by omega)) 4).trans ((congrFun (up_k e_nu112 (by omega)) 4).trans ((congrFun (up_k e_nu100 (by omega)) 4).trans ((congrFun (up_k e_nu88 (by omega)) 4).trans ((congrFun (up_k e_nu74 (by omega)) 4).trans ((congrFun (up_k e_nu60 (by omega)) 4).trans ((up_f e_nu47 (by omega)).trans ((up_f e_nu36 (by omega)).trans ((up_v e_nu27).symm))))))))))
    · exact ((congrFun (up_k e_nu172 (by omega)) 5).trans ((congrFun (up_k e_nu140 (by omega)) 5).trans ((congrFun (up_k e_nu125 (by omega)) 5).trans ((congrFun (up_k e_nu112 (by omega)) 5).trans ((congrFun (up_k e_nu100 (by omega)) 5).trans ((congrFun (up_k e_nu88 (by omega)) 5).trans ((congrFun (up_k e_nu74 (by omega)) 5).trans ((congrFun (up_k e_nu60 (by omega)) 5).trans ((up_f e_nu47 (by omega)).trans ((up_v e_nu36).symm)))))))))).trans q_y35
    · exact ((congrFun (up_k e_nu172 (by omega)) 6).trans ((congrFun (up_k e_nu140 (by omega)) 6).trans ((congrFun (up_k e_nu125 (by omega)) 6).trans ((congrFun (up_k e_nu112 (by omega)) 6).trans ((congrFun (up_k e_nu100 (by omega)) 6).trans ((congrFun (up_k e_nu88 (by omega)) 6).trans ((congrFun (up_k e_nu74 (by omega)) 6).trans ((congrFun (up_k e_nu60 (by omega)) 6).trans ((up_v e_nu47).symm))))))))).trans q_y46
    · exact ((congrFun (up_k e_nu172 (by omega)) 1).trans ((congrFun (up_k e_nu140 (by omega)) 1).trans ((congrFun (up_k e_nu125 (by omega)) 1).trans ((congrFun (up_k e_nu112 (by omega)) 1).trans ((congrFun (up_k e_nu100 (by omega)) 1).trans ((congrFun (up_k e_nu88 (by omega)) 1).trans ((congrFun (up_k e_nu74 (by omega)) 1).trans ((up_v e_nu60).symm)))))))).trans q_t59
    · have hp : xi 46 = upd (upd (mu 46) vx.toNatClampNeg t73) y13.toNatClampNeg t87 := (up_k e_nu172 (by omega)).trans ((up_k e_nu140 (by omega)).trans ((up_k e_nu125 (by omega)).trans ((up_k e_nu112 (by omega)).trans ((up_k e_nu100 (by omega)).trans ((up_c e_nu88).trans (by rw [(up_c e_nu74).trans (by rw [(up_k e_nu60 (by omega)).trans ((up_k e_nu47 (by omega)).trans ((up_k e_nu36 (by omega)).trans ((up_k e_nu27 (by omega)).trans ((up_k e_nu20 (by omega)).trans ((up_k e_nu14 (by omega)).trans ((up_k e_nu9 (by omega)).trans (up_k e_nu6 (by omega))))))))])]))))))
      rw [hp, q_t87, q_y86, q_t73, q_y72, q_y13]
    · exact (up_f e_nu172 (by omega)).trans ((up_f e_nu140 (by omega)).trans ((up_f e_nu125 (by omega)).trans ((up_f e_nu112 (by omega)).trans ((up_f e_nu100 (by omega)).trans ((congrFun (up_k e_nu88 (by omega)) f).trans ((congrFun (up_k e_nu74 (by omega)) f).trans ((congrFun (up_k e_nu60 (by omega)) f).trans ((congrFun (up_k e_nu47 (by omega)) f).trans ((congrFun (up_k e_nu36 (by omega)) f).trans ((congrFun (up_k e_nu27 (by omega)) f).trans ((congrFun (up_k e_nu20 (by omega)) f).trans ((congrFun (up_k e_nu14 (by omega)) f).trans ((congrFun (up_k e_nu9 (by omega)) f).trans (congrFun (up_k e_nu6 (by omega)) f))))))))))))))
    · exact (up_f e_nu172 (by omega)).trans ((up_f e_nu140 (by omega)).trans ((up_f e_nu125 (by omega)).trans ((up_f e_nu112 (by omega)).trans ((up_v e_nu100).symm))))
    · exact (up_f e_nu172 (by omega)).trans ((up_f e_nu140 (by omega)).trans ((up_f e_nu125 (by omega)).trans ((up_v e_nu112).symm)))
    · exact ((up_f e_nu172 (by omega)).trans ((up_f e_nu140 (by omega)).trans ((up_v e_nu125).symm))).trans q_y124
    · exact ((up_f e_nu172 (by omega)).trans ((up_v e_nu140).symm)).trans (by rw [q_t139, q_y138])
    · rw [if_pos (by rw [← q_y154]; exact c)]
      exact (up_v e_nu172).symm
  · rw [if_neg c] at h
    obtain ⟨nu156, e_nu156, h⟩ := letv_out h
    obtain ⟨hr, hxi⟩ := Prod.mk.inj h
    subst hr hxi
    rw [e_y3]
    refine ⟨e_r2.symm, fun c h1 h2 h3 h4 h5 => ?_, fun x hx => ?_, ⟨?_, ?_, ?_, ?_, ?_, ?_⟩, ?_, ?_, fun f hf => ?_, ?_, ?_, ?_, ?_, ?_⟩
    · rw [show 117 + y3.toNatClampNeg = 77 + y3.toNatClampNeg + 40 by omega] at h1
      exact (up_k e_nu156 h5).trans ((up_k e_nu140 h5).trans ((up_k e_nu125 h5).trans ((up_k e_nu112 h5).trans ((up_k e_nu100 h5).trans ((up_k e_nu88 h4).trans ((up_k e_nu74 h4).trans ((up_k e_nu60 h3).trans ((up_k e_nu47 h2).trans ((up_k e_nu36 h2).trans ((up_k e_nu27 h2).trans ((up_k e_nu20 h2).trans ((up_k e_nu14 h2).trans ((up_k e_nu9 h2).trans (up_k e_nu6 h1))))))))))))))
    · rw [show 117 + y3.toNatClampNeg = 77 + y3.toNatClampNeg + 40 by omega, show xi (77 + y3.toNatClampNeg + 40) = _ from (up_k e_nu156 (by omega)).trans ((up_k e_nu140 (by omega)).trans ((up_k e_nu125 (by omega)).trans ((up_k e_nu112 (by omega)).trans ((up_k e_nu100 (by omega)).trans ((up_k e_nu88 (by omega)).trans ((up_k e_nu74 (by omega)).trans ((up_k e_nu60 (by omega)).trans ((up_k e_nu47 (by omega)).trans ((up_k e_nu36 (by omega)).trans ((up_k e_nu27 (by omega)).trans ((up_k e_nu20 (by omega)).trans ((up_k e_nu14 (by omega)).trans (up_k e_nu9 (by omega)))))))))))))), up_c e_nu6]
      show (if (0 : Nat) ≤ x ∧ x < 0 + 7 then mu 46 (0 + (x - 0)) else _) = _
      rw [if_pos ⟨Nat.zero_le _, by omega⟩, Nat.zero_add, Nat.sub_zero]
    · exact (congrFun (up_k e_nu156 (by omega)) 1).trans ((congrFun (up_k e_nu140 (by omega)) 1).trans ((congrFun (up_k e_nu125 (by omega)) 1).trans ((congrFun (up_k e_nu112 (by omega)) 1).trans ((congrFun (up_k e_nu100 (by omega)) 1).trans ((congrFun (up_k e_nu88 (by omega)) 1).trans ((congrFun (up_k e_nu74 (by omega)) 1).trans ((congrFun (up_k e_nu60 (by omega)) 1).trans ((up_f e_nu47 (by omega)).trans ((up_f e_nu36 (by omega)).trans ((up_f e_nu27 (by omega)).trans ((up_f e_nu20 (by omega)).trans ((up_f e_nu14 (by omega)).trans ((up_v e_nu9).symm)))))))))))))
    · exact ((congrFun (up_k e_nu156 (by omega)) 2).trans ((congrFun (up_k e_nu140 (by omega)) 2).trans ((congrFun (up_k e_nu125 (by omega)) 2).trans ((congrFun (up_k e_nu112 (by omega)) 2).trans ((congrFun (up_k e_nu100 (by omega)) 2).trans ((congrFun (up_k e_nu88 (by omega)) 2).trans ((congrFun (up_k e_nu74 (by omega)) 2).trans ((congrFun (up_k e_nu60 (by omega)) 2).trans ((up_f e_nu47 (by omega)).trans ((up_f e_nu36 (by omega)).trans ((up_f e_nu27 (by omega)).trans ((up_f e_nu20 (by omega)).trans ((up_v e_nu14).symm))))))))))))).trans q_y13
    · exact (congrFun (up_k e_nu156 (by omega)) 3).trans ((congrFun (up_k e_nu140 (by omega)) 3).trans ((congrFun (up_k e_nu125 (by omega)) 3).trans ((congrFun (up_k e_nu112 (by omega)) 3).trans ((congrFun (up_k e_nu100 (by omega)) 3).trans ((congrFun (up_k e_nu88 (by omega)) 3).trans ((congrFun (up_k e_nu74 (by omega)) 3).trans ((congrFun (up_k e_nu60 (by omega)) 3).trans ((up_f e_nu47 (by omega)).trans ((up_f e_nu36 (by omega)).trans ((up_f e_nu27 (by omega)).trans ((up_v e_nu20).symm)))))))))))
    · exact (congrFun (up_k e_nu156 (by omega)) 4).trans ((congrFun (up_k e_nu140 (by omega)) 4).trans ((congrFun (up_k e_nu125 (by omega)) 4).trans ((congrFun (up_k e_nu112 (by omega)) 4).trans ((congrFun (up_k e_nu100 (by omega)) 4).trans ((congrFun (up_k e_nu88 (by omega)) 4).trans ((congrFun (up_k e_nu74 (by omega)) 4).trans ((congrFun (up_k e_nu60 (by omega)) 4).trans ((up_f e_nu47 (by omega)).trans ((up_f e_nu36 (by omega)).trans ((up_v e_nu27).symm))))))))))
    · exact ((congrFun (up_k e_nu156 (by omega)) 5).trans ((congrFun (up_k e_nu140 (by omega)) 5).trans ((congrFun (up_k e_nu125 (by omega)) 5).trans ((congrFun (up_k e_nu112 (by omega)) 5).trans ((congrFun (up_k e_nu100 (by omega)) 5).trans ((congrFun (up_k e_nu88 (by omega)) 5).trans ((congrFun (up_k e_nu74 (by omega)) 5).trans ((congrFun (up_k e_nu60 (by omega)) 5).trans ((up_f e_nu47 (by omega)).trans ((up_v e_nu36).symm)))))))))).trans q_y35
    · exact ((congrFun (up_k e_nu156 (by omega)) 6).trans ((congrFun (up_k e_nu140 (by omega)) 6).trans ((congrFun (up_k e_nu125 (by omega)) 6).trans ((congrFun (up_k e_nu112 (by omega)) 6).trans ((congrFun (up_k e_nu100 (by omega)) 6).trans ((congrFun (up_k e_nu88 (by omega)) 6).trans ((congrFun (up_k e_nu74 (by omega)) 6).trans ((congrFun (up_k e_nu60 (by omega)) 6).trans ((up_v e_nu47).symm))))))))).trans q_y46
    · exact ((congrFun (up_k e_nu156 (by omega)) 1).trans ((congrFun (up_k e_nu140 (by omega)) 1).trans ((congrFun (up_k e_nu125 (by omega)) 1).trans ((congrFun (up_k e_nu112 (by omega)) 1).trans ((congrFun (up_k e_nu100 (by omega)) 1).trans ((congrFun (up_k e_nu88 (by omega)) 1).trans ((congrFun (up_k e_nu74 (by omega)) 1).trans ((up_v e_nu60).symm)))))))).trans q_t59
    · have hp : xi 46 = upd (upd (mu 46) vx.toNatClampNeg t73) y13.toNatClampNeg t87 := (up_k e_nu156 (by omega)).trans ((up_k e_nu140 (by omega)).trans ((up_k e_nu125 (by omega)).trans ((up_k e_nu112 (by omega)).trans ((up_k e_nu100 (by omega)).trans ((up_c e_nu88).trans (by rw [(up_c e_nu74).trans (by rw [(up_k e_nu60 (by omega)).trans ((up_k e_nu47 (by omega)).trans ((up_k e_nu36 (by omega)).trans ((up_k e_nu27 (by omega)).trans ((up_k e_nu20 (by omega)).trans ((up_k e_nu14 (by omega)).trans ((up_k e_nu9 (by omega)).trans (up_k e_nu6 (by omega))))))))])]))))))
      rw [hp, q_t87, q_y86, q_t73, q_y72, q_y13]
    · exact (up_f e_nu156 (by omega)).trans ((up_f e_nu140 (by omega)).trans ((up_f e_nu125 (by omega)).trans ((up_f e_nu112 (by omega)).trans ((up_f e_nu100 (by omega)).trans ((congrFun (up_k e_nu88 (by omega)) f).trans ((congrFun (up_k e_nu74 (by omega)) f).trans ((congrFun (up_k e_nu60 (by omega)) f).trans ((congrFun (up_k e_nu47 (by omega)) f).trans ((congrFun (up_k e_nu36 (by omega)) f).trans ((congrFun (up_k e_nu27 (by omega)) f).trans ((congrFun (up_k e_nu20 (by omega)) f).trans ((congrFun (up_k e_nu14 (by omega)) f).trans ((congrFun (up_k e_nu9 (by omega)) f).trans (congrFun (up_k e_nu6 (by omega)) f))))))))))))))
    · exact (up_f e_nu156 (by omega)).trans ((up_f e_nu140 (by omega)).trans ((up_f e_nu125 (by omega)).trans ((up_f e_nu112 (by omega)).trans ((up_v e_nu100).symm))))
    · exact (up_f e_nu156 (by omega)).trans ((up_f e_nu140 (by omega)).trans ((up_f e_nu125 (by omega)).trans ((up_v e_nu112).symm)))
    · exact ((up_f e_nu156 (by omega)).trans ((up_f e_nu140 (by omega)).trans ((up_v e_nu125).symm))).trans q_y124
    · exact ((up_f e_nu156 (by omega)).trans ((up_v e_nu140).symm)).trans (by rw [q_t139, q_y138])
    · rw [if_neg (fun e => c (e.trans q_y154.symm))]
      exact (up_v e_nu156).symm
theorem fm_set0 {mu : Nat → Nat → Int32} {k v : Int32} (hk : 0 ≤ k.toInt ∧ k.toInt ≤ 3) : F_sm_setLetter0 mu k v = va_up mu 10 (upd (mu 10) (10 * k.toNatClampNeg + 0) v) := by
  simp only [F_sm_setLetter0, letv_eq]
  rw [ix_10 hk (by decide)]
  rfl
theorem fm_set1 {mu : Nat → Nat → Int32} {k v : Int32} (hk : 0 ≤ k.toInt ∧ k.toInt ≤ 3) : F_sm_setLetter1 mu k v = va_up mu 10 (upd (mu 10) (10 * k.toNatClampNeg + 1) v) := by
  simp only [F_sm_setLetter1, letv_eq]
  rw [ix_10 hk (by decide)]
  rfl
theorem fm_set2 {mu : Nat → Nat → Int32} {k v : Int32} (hk : 0 ≤ k.toInt ∧ k.toInt ≤ 3) : F_sm_setLetter2 mu k v = va_up mu 10 (upd (mu 10) (10 * k.toNatClampNeg + 2) v) := by
  simp only [F_sm_setLetter2, letv_eq]
  rw [ix_10 hk (by decide)]
  rfl
theorem fm_set3 {mu : Nat → Nat → Int32} {k v : Int32} (hk : 0 ≤ k.toInt ∧ k.toInt ≤ 3) : F_sm_setLetter3 mu k v = va_up mu 10 (upd (mu 10) (10 * k.toNatClampNeg + 3) v) := by
  simp only [F_sm_setLetter3, letv_eq]
  rw [ix_10 hk (by decide)]
  rfl
theorem fm_set4 {mu : Nat → Nat → Int32} {k v : Int32} (hk : 0 ≤ k.toInt ∧ k.toInt ≤ 3) : F_sm_setLetter4 mu k v = va_up mu 10 (upd (mu 10) (10 * k.toNatClampNeg + 4) v) := by
  simp only [F_sm_setLetter4, letv_eq]
  rw [ix_10 hk (by decide)]
  rfl
theorem fm_set5 {mu : Nat → Nat → Int32} {k v : Int32} (hk : 0 ≤ k.toInt ∧ k.toInt ≤ 3) : F_sm_setLetter5 mu k v = va_up mu 10 (upd (mu 10) (10 * k.toNatClampNeg + 5) v) := by
  simp only [F_sm_setLetter5, letv_eq]
  rw [ix_10 hk (by decide)]
  rfl
theorem fm_set6 {mu : Nat → Nat → Int32} {k v : Int32} (hk : 0 ≤ k.toInt ∧ k.toInt ≤ 3) : F_sm_setLetter6 mu k v = va_up mu 10 (upd (mu 10) (10 * k.toNatClampNeg + 6) v) := by
  simp only [F_sm_setLetter6, letv_eq]
  rw [ix_10 hk (by decide)]
  rfl
theorem fm_set7 {mu : Nat → Nat → Int32} {k v : Int32} (hk : 0 ≤ k.toInt ∧ k.toInt ≤ 3) : F_sm_setLetter7 mu k v = va_up mu 10 (upd (mu 10) (10 * k.toNatClampNeg + 7) v) := by
  simp only [F_sm_setLetter7, letv_eq]
  rw [ix_10 hk (by decide)]
  rfl
theorem fm_set8 {mu : Nat → Nat → Int32} {k v : Int32} (hk : 0 ≤ k.toInt ∧ k.toInt ≤ 3) : F_sm_setLetter8 mu k v = va_up mu 10 (upd (mu 10) (10 * k.toNatClampNeg + 8) v) := by
  simp only [F_sm_setLetter8, letv_eq]
  rw [ix_10 hk (by decide)]
  rfl
theorem fm_set9 {mu : Nat → Nat → Int32} {k v : Int32} (hk : 0 ≤ k.toInt ∧ k.toInt ≤ 3) : F_sm_setLetter9 mu k v = va_up mu 10 (upd (mu 10) (10 * k.toNatClampNeg + 9) v) := by
  simp only [F_sm_setLetter9, letv_eq]
  rw [ix_10 hk (by decide)]
  rfl
theorem lm_sell {r3 r4 t2 vk vx y1 : Int32} {T : Nat} (ht : t2.toInt = (T : Int)) (hT : T ≤ 468) : ∀ (n : Nat) (i : Int32) (nu : Nat → Nat → Int32), 0 ≤ i.toInt → i.toInt ≤ 7 → (7 - i.toInt).toNat < n → ∃ (m : Nat) (nu1 : Nat → Nat → Int32), L_sm_sellTo_83_0 r3 r4 t2 vk vx y1 n i nu = L_sm_sellTo_83_0 r3 r4 t2 vk vx y1 (m + 1) 7 nu1 ∧ ∀ k f : Nat, nu1 k f = if k = 14 ∧ T + 5 + i.toNatClampNeg ≤ f ∧ f < T + 12 then nu 8 (f - (T + 5)) else nu k f := by
  intro n
  induction n with
  | zero => intro i nu _ _ h; exact absurd h (Nat.not_lt_zero _)
  | succ n ih =>
    intro i nu h0 h4 hn
    have z7 : (7 : Int32).toInt = 7 := rfl
    have hc := tC_of h0
    by_cases c : i.toInt = 7
    · have ei : i = 7 := Int32.toInt_inj.mp (by omega)
      refine ⟨n, nu, by rw [ei], fun k f => ?_⟩
      rw [if_neg (fun h => by omega)]
    · have ai : (i + 1 : Int32).toInt = i.toInt + 1 := tI_add rfl (rfl : (1 : Int32).toInt = 1) (by omega) (by omega)
      have hc1 := tC_of (v := i + 1) (by omega)
      have a1 : (t2 + 5 : Int32).toInt = (T : Int) + 5 := tI_add ht (rfl : (5 : Int32).toInt = 5) (by omega) (by omega)
      have a2 : (t2 + 5 + i : Int32).toInt = (T : Int) + 5 + i.toInt := tI_add a1 rfl (by omega) (by omega)
      have a3 := tC_of (v := t2 + 5 + i) (by omega)
      have a4 : (t2 + 5 + i : Int32).toNatClampNeg = T + 5 + i.toNatClampNeg := by omega
      have st : L_sm_sellTo_83_0 r3 r4 t2 vk vx y1 (n + 1) i nu = L_sm_sellTo_83_0 r3 r4 t2 vk vx y1 n (i + 1) (va_up nu 14 (upd (nu 14) (T + 5 + i.toNatClampNeg) (nu 8 i.toNatClampNeg))) := by
        rw [L_sm_sellTo_83_0]
        rw [if_neg (fun e => by have := vv_ge.mp e; omega)]
        simp only [letv_eq]
        rw [a4]
      rw [st]
      generalize hv : va_up nu 14 (upd (nu 14) (T + 5 + i.toNatClampNeg) (nu 8 i.toNatClampNeg)) = nu2
      obtain ⟨m, nu1, g1, g2⟩ := ih (i + 1) nu2 (by omega) (by omega) (by omega)
      refine ⟨m, nu1, g1, fun k f => ?_⟩
      have k8 : nu2 8 = nu 8 := up_k hv (by decide)
      rw [g2 k f, k8]
      by_cases e : k = 14 ∧ f = T + 5 + i.toNatClampNeg
      · obtain ⟨e, ef⟩ := e
        subst e ef
        rw [if_neg (fun h => by omega), if_pos ⟨rfl, by omega, by omega⟩, ← up_v hv, show T + 5 + i.toNatClampNeg - (T + 5) = i.toNatClampNeg by omega]
      · have st2 : nu2 k f = nu k f := by
          by_cases ek : k = 14
          · subst ek
            exact up_f hv (fun h => e ⟨rfl, h⟩)
          · exact congrFun (up_k hv ek) f
        rw [st2]
        by_cases c5 : k = 14 ∧ T + 5 + i.toNatClampNeg ≤ f ∧ f < T + 12
        · rw [if_pos (by omega), if_pos c5]
        · rw [if_neg (by omega), if_neg c5]
theorem es_m {mu : Nat → Nat → Int32} {vk vx : Int32} {xi : Nat → Nat → Int32} (hk : 0 ≤ vk.toInt ∧ vk.toInt ≤ 3) (hn : 0 ≤ (mu 0 17).toInt ∧ (mu 0 17).toInt < 40) (h : xi = F_sm_sellTo mu vk vx) : (∀ c : Nat, c ≠ 14 → c ≠ 0 → c ≠ 8 → c ≠ 10 → xi c = mu c) ∧ (∀ f : Nat, f ≠ 17 → xi 0 f = mu 0 f) ∧ xi 0 17 = mu 0 17 + 1 ∧ (∀ f : Nat, f < 12 * (mu 0 17).toNatClampNeg ∨ 12 * (mu 0 17).toNatClampNeg + 12 ≤ f → xi 14 f = mu 14 f) ∧ (xi 14 (12 * (mu 0 17).toNatClampNeg) = vk ∧ xi 14 (12 * (mu 0 17).toNatClampNeg + 1) = mu 10 (10 * vk.toNatClampNeg + 5) ∧ xi 14 (12 * (mu 0 17).toNatClampNeg + 2) = mu 10 (10 * vk.toNatClampNeg + 6) ∧ xi 14 (12 * (mu 0 17).toNatClampNeg + 3) = mu 10 (10 * vk.toNatClampNeg + 8) ∧ xi 14 (12 * (mu 0 17).toNatClampNeg + 4) = F_sm_priceOf mu vk) ∧ (∀ x : Nat, x < 7 → xi 14 (12 * (mu 0 17).toNatClampNeg + 5 + x) = mu 8 x) ∧ xi 8 = upd (upd (mu 8) vx.toNatClampNeg (mu 8 vx.toNatClampNeg - F_sm_priceOf mu vk)) (mu 10 (10 * vk.toNatClampNeg + 5)).toNatClampNeg (upd (mu 8) vx.toNatClampNeg (mu 8 vx.toNatClampNeg - F_sm_priceOf mu vk) (mu 10 (10 * vk.toNatClampNeg + 5)).toNatClampNeg + F_sm_priceOf mu vk) ∧ (∀ f : Nat, f < 10 * vk.toNatClampNeg + 5 ∨ 10 * vk.toNatClampNeg + 10 ≤ f → xi 10 f = mu 10 f) ∧ xi 10 (10 * vk.toNatClampNeg + 5) = vx ∧ xi 10 (10 * vk.toNatClampNeg + 6) = F_sm_priceOf mu vk ∧ xi 10 (10 * vk.toNatClampNeg + 7) = mu 10 (10 * vk.toNatClampNeg + 7) + 1 ∧ xi 10 (10 * vk.toNatClampNeg + 8) = mu 0 14 ∧ xi 10 (10 * vk.toNatClampNeg + 9) = (if vx = mu 10 (10 * vk.toNatClampNeg + 1) then 1 else 0) := by
  have hc := tC_of hk.1
  have hcn := tC_of hn.1
  unfold F_sm_sellTo at h
  obtain ⟨y1, e_y1, h⟩ := letv_out h
  obtain ⟨t2, e_t2, h⟩ := letv_out h
  obtain ⟨r3, e_r3, h⟩ := letv_out h
  obtain ⟨r4, e_r4, h⟩ := letv_out h
  obtain ⟨nu6, e_nu6, h⟩ := letv_out h
  obtain ⟨t9, e_t9, h⟩ := letv_out h
  obtain ⟨nu11, e_nu11, h⟩ := letv_out h
  obtain ⟨t14, e_t14, h⟩ := letv_out h
  obtain ⟨r15, e_r15, h⟩ := letv_out h
  obtain ⟨nu17, e_nu17, h⟩ := letv_out h
  obtain ⟨t20, e_t20, h⟩ := letv_out h
  obtain ⟨r21, e_r21, h⟩ := letv_out h
  obtain ⟨nu23, e_nu23, h⟩ := letv_out h
  obtain ⟨t26, e_t26, h⟩ := letv_out h
  obtain ⟨nu28, e_nu28, h⟩ := letv_out h
  have a2 : t2.toInt = 12 * (mu 0 17).toInt := by
    rw [← e_t2, ← e_y1]
    exact tI_mul (rfl : (12 : Int32).toInt = 12) rfl (by omega) (by omega)
  have b2 := tC_of (v := t2) (by omega)
  have n2 : t2.toNatClampNeg = 12 * (mu 0 17).toNatClampNeg := by omega
  have a_t9 : t9.toInt = 12 * (mu 0 17).toInt + 1 := by
    rw [← e_t9]
    exact tI_add a2 (rfl : (1 : Int32).toInt = 1) (by omega) (by omega)
  have b_t9 := tC_of (v := t9) (by omega)
  have n_t9 : t9.toNatClampNeg = 12 * (mu 0 17).toNatClampNeg + 1 := by omega
  have a_t14 : t14.toInt = 12 * (mu 0 17).toInt + 2 := by
    rw [← e_t14]
    exact tI_add a2 (rfl : (2 : Int32).toInt = 2) (by omega) (by omega)
  have b_t14 := tC_of (v := t14) (by omega)
  have n_t14 : t14.toNatClampNeg = 12 * (mu 0 17).toNatClampNeg + 2 := by omega
  have a_t20 : t20.toInt = 12 * (mu 0 17).toInt + 3 := by
    rw [← e_t20]
    exact tI_add a2 (rfl : (3 : Int32).toInt = 3) (by omega) (by omega)
  have b_t20 := tC_of (v := t20) (by omega)
  have n_t20 : t20.toNatClampNeg = 12 * (mu 0 17).toNatClampNeg + 3 := by omega
  have a_t26 : t26.toInt = 12 * (mu 0 17).toInt + 4 := by
    rw [← e_t26]
    exact tI_add a2 (rfl : (4 : Int32).toInt = 4) (by omega) (by omega)
  have b_t26 := tC_of (v := t26) (by omega)
  have n_t26 : t26.toNatClampNeg = 12 * (mu 0 17).toNatClampNeg + 4 := by omega
  rw [fm_letterOf5 hk] at e_r3
  rw [fm_letterOf hk (by decide)] at e_r15
  rw [fm_letterOf hk (by decide)] at e_r21
  rw [n2] at e_nu6
  rw [n_t9] at e_nu11
  rw [n_t14] at e_nu17
  rw [n_t20] at e_nu23
  rw [n_t26] at e_nu28
  have q_r15 : r15 = mu 10 (10 * vk.toNatClampNeg + 6) := e_r15.symm.trans ((congrFun (up_k e_nu11 (by decide)) _).trans (congrFun (up_k e_nu6 (by decide)) _))
  have q_r21 : r21 = mu 10 (10 * vk.toNatClampNeg + 8) := e_r21.symm.trans ((congrFun (up_k e_nu17 (by decide)) _).trans ((congrFun (up_k e_nu11 (by decide)) _).trans (congrFun (up_k e_nu6 (by decide)) _)))
  obtain ⟨m, nv, g1, g2⟩ := lm_sell (r3 := r3) (r4 := r4) (t2 := t2) (vk := vk) (vx := vx) (y1 := y1) (T := 12 * (mu 0 17).toNatClampNeg) (by omega) (by omega) 10 0 nu28 (by decide) (by decide) (by decide)
  rw [g1, L_sm_sellTo_83_0, if_pos (by decide)] at h
  rw [show (0 : Int32).toNatClampNeg = 0 from rfl, Nat.add_zero] at g2
  obtain ⟨t32, e_t32, h⟩ := letv_out h
  obtain ⟨nu33, e_nu33, h⟩ := letv_out h
  obtain ⟨y36, e_y36, h⟩ := letv_out h
  obtain ⟨t37, e_t37, h⟩ := letv_out h
  obtain ⟨nu38, e_nu38, h⟩ := letv_out h
  obtain ⟨y41, e_y41, h⟩ := letv_out h
  obtain ⟨t42, e_t42, h⟩ := letv_out h
  obtain ⟨nu43, e_nu43, h⟩ := letv_out h
  obtain ⟨xi46, e_xi46, h⟩ := letv_out h
  obtain ⟨xi48, e_xi48, h⟩ := letv_out h
  obtain ⟨r50, e_r50, h⟩ := letv_out h
  obtain ⟨t51, e_t51, h⟩ := letv_out h
  obtain ⟨xi52, e_xi52, h⟩ := letv_out h
  obtain ⟨y54, e_y54, h⟩ := letv_out h
  obtain ⟨xi55, e_xi55, h⟩ := letv_out h
  obtain ⟨r57, e_r57, h⟩ := letv_out h
  rw [fm_set5 hk] at e_xi46
  rw [fm_set6 hk] at e_xi48
  rw [fm_set7 hk] at e_xi52
  rw [fm_set8 hk] at e_xi55
  rw [fm_letterOf hk (by decide)] at e_r50
  rw [fm_letterOf hk (by decide)] at e_r57
  have v8 : nv 8 = mu 8 := funext fun f => by
    rw [g2 8 f, if_neg (fun h => by omega)]
    exact (congrFun (up_k e_nu28 (by decide)) f).trans ((congrFun (up_k e_nu23 (by decide)) f).trans ((congrFun (up_k e_nu17 (by decide)) f).trans ((congrFun (up_k e_nu11 (by decide)) f).trans (congrFun (up_k e_nu6 (by decide)) f))))
  have v10 : nv 10 = mu 10 := funext fun f => by
    rw [g2 10 f, if_neg (fun h => by omega)]
    exact (congrFun (up_k e_nu28 (by decide)) f).trans ((congrFun (up_k e_nu23 (by decide)) f).trans ((congrFun (up_k e_nu17 (by decide)) f).trans ((congrFun (up_k e_nu11 (by decide)) f).trans (congrFun (up_k e_nu6 (by decide)) f))))
  have v0 : nv 0 = mu 0 := funext fun f => by
    rw [g2 0 f, if_neg (fun h => by omega)]
    exact (congrFun (up_k e_nu28 (by decide)) f).trans ((congrFun (up_k e_nu23 (by decide)) f).trans ((congrFun (up_k e_nu17 (by decide)) f).trans ((congrFun (up_k e_nu11 (by decide)) f).trans (congrFun (up_k e_nu6 (by decide)) f))))
  have vc : ∀ c : Nat, c ≠ 14 → nv c = mu c := fun c hc14 => funext fun f => by
    rw [g2 c f, if_neg (fun h => hc14 h.1)]
    exact (congrFun (up_k e_nu28 hc14) f).trans ((congrFun (up_k e_nu23 hc14) f).trans ((congrFun (up_k e_nu17 hc14) f).trans ((congrFun (up_k e_nu11 hc14) f).trans (congrFun (up_k e_nu6 hc14) f))))
  have hA : nu33 8 = mu 8 := (up_k e_nu33 (by decide)).trans v8
  have hB : nu38 8 = upd (mu 8) vx.toNatClampNeg t37 := (up_c e_nu38).trans (by rw [hA])
  have hC : nu43 8 = upd (upd (mu 8) vx.toNatClampNeg t37) r3.toNatClampNeg t42 := (up_c e_nu43).trans (by rw [hB])
  have qA : y36 = mu 8 vx.toNatClampNeg := e_y36.symm.trans (congrFun hA _)
  have qB : y41 = upd (mu 8) vx.toNatClampNeg t37 r3.toNatClampNeg := e_y41.symm.trans (congrFun hB _)
  have w10 : nu43 10 = mu 10 := (up_k e_nu43 (by decide)).trans ((up_k e_nu38 (by decide)).trans ((up_k e_nu33 (by decide)).trans v10))
  have q7 : r50 = mu 10 (10 * vk.toNatClampNeg + 7) := e_r50.symm.trans ((up_f e_xi48 (show 10 * vk.toNatClampNeg + 7 ≠ 10 * vk.toNatClampNeg + 6 by omega)).trans ((up_f e_xi46 (show 10 * vk.toNatClampNeg + 7 ≠ 10 * vk.toNatClampNeg + 5 by omega)).trans (congrFun w10 _)))
  have qD : y54 = mu 0 14 := e_y54.symm.trans ((congrFun (up_k e_xi52 (by decide)) 14).trans ((congrFun (up_k e_xi48 (by decide)) 14).trans ((congrFun (up_k e_xi46 (by decide)) 14).trans ((congrFun (up_k e_nu43 (by decide)) 14).trans ((congrFun (up_k e_nu38 (by decide)) 14).trans ((up_f e_nu33 (by decide)).trans (congrFun v0 14)))))))
  have q1 : r57 = mu 10 (10 * vk.toNatClampNeg + 1) := e_r57.symm.trans ((up_f e_xi55 (show 10 * vk.toNatClampNeg + 1 ≠ 10 * vk.toNatClampNeg + 8 by omega)).trans ((up_f e_xi52 (show 10 * vk.toNatClampNeg + 1 ≠ 10 * vk.toNatClampNeg + 7 by omega)).trans ((up_f e_xi48 (show 10 * vk.toNatClampNeg + 1 ≠ 10 * vk.toNatClampNeg + 6 by omega)).trans ((up_f e_xi46 (show 10 * vk.toNatClampNeg + 1 ≠ 10 * vk.toNatClampNeg + 5 by omega)).trans (congrFun w10 _)))))
  obtain ⟨x9, e_x9, hx⟩ : ∃ x9 : Nat → Nat → Int32, va_up xi55 10 (upd (xi55 10) (10 * vk.toNatClampNeg + 9) (if vx = mu 10 (10 * vk.toNatClampNeg + 1) then 1 else 0)) = x9 ∧ xi = x9 := by
    refine ⟨_, rfl, ?_⟩
    rw [h]
    simp only [letv_eq]
    rw [q1]
    by_cases c : vx = mu 10 (10 * vk.toNatClampNeg + 1)
    · rw [if_pos c, if_pos c, fm_set9 hk]
    · rw [if_neg c, if_neg c, fm_set9 hk]
  subst hx
  have x14 : xi 14 = nv 14 := (up_k e_x9 (by decide)).trans ((up_k e_xi55 (by decide)).trans ((up_k e_xi52 (by decide)).trans ((up_k e_xi48 (by decide)).trans ((up_k e_xi46 (by decide)).trans ((up_k e_nu43 (by decide)).trans ((up_k e_nu38 (by decide)).trans (up_k e_nu33 (by decide))))))))
  have x0 : xi 0 = nu33 0 := (up_k e_x9 (by decide)).trans ((up_k e_xi55 (by decide)).trans ((up_k e_xi52 (by decide)).trans ((up_k e_xi48 (by decide)).trans ((up_k e_xi46 (by decide)).trans ((up_k e_nu43 (by decide)).trans (up_k e_nu38 (by decide)))))))
  have x8_ : xi 8 = nu43 8 := (up_k e_x9 (by decide)).trans ((up_k e_xi55 (by decide)).trans ((up_k e_xi52 (by decide)).trans ((up_k e_xi48 (by decide)).trans (up_k e_xi46 (by decide)))))
  have n14 : ∀ f : Nat, (∀ i : Nat, i < 5 → f ≠ 12 * (mu 0 17).toNatClampNeg + i) → nu28 14 f = mu 14 f := fun f hf => (up_f e_nu28 (hf 4 (by decide))).trans ((up_f e_nu23 (hf 3 (by decide))).trans ((up_f e_nu17 (hf 2 (by decide))).trans ((up_f e_nu11 (hf 1 (by decide))).trans (up_f e_nu6 (hf 0 (by decide))))))
  refine ⟨fun c h1 h2 h3 h4 => ?_, fun f hf => ?_, ?_, fun f hf => ?_, ⟨?_, ?_, ?_, ?_, ?_⟩, fun x hx => ?_, ?_, fun f hf => ?_, ?_, ?_, ?_, ?_, ?_⟩
  · exact (up_k e_x9 h4).trans ((up_k e_xi55 h4).trans ((up_k e_xi52 h4).trans ((up_k e_xi48 h4).trans ((up_k e_xi46 h4).trans ((up_k e_nu43 h3).trans ((up_k e_nu38 h3).trans ((up_k e_nu33 h2).trans (vc c h1))))))))
  · rw [x0]
    exact (up_f e_nu33 hf).trans (congrFun v0 f)
  · rw [x0, ← up_v e_nu33, ← e_t32, ← e_y1]
  · rw [x14, g2 14 f, if_neg (fun h => by omega)]
    exact n14 f (fun i hi => by omega)
  · rw [x14, g2, if_neg (fun h => by omega)]
    exact (up_f e_nu28 (by omega)).trans ((up_f e_nu23 (by omega)).trans ((up_f e_nu17 (by omega)).trans ((up_f e_nu11 (by omega)).trans (up_v e_nu6).symm)))
  · rw [x14, g2, if_neg (fun h => by omega)]
    exact ((up_f e_nu28 (by omega)).trans ((up_f e_nu23 (by omega)).trans ((up_f e_nu17 (by omega)).trans (up_v e_nu11).symm))).trans e_r3.symm
  · rw [x14, g2, if_neg (fun h => by omega)]
    exact ((up_f e_nu28 (by omega)).trans ((up_f e_nu23 (by omega)).trans (up_v e_nu17).symm)).trans q_r15
  · rw [x14, g2, if_neg (fun h => by omega)]
    exact ((up_f e_nu28 (by omega)).trans (up_v e_nu23).symm).trans q_r21
  · rw [x14, g2, if_neg (fun h => by omega)]
    exact ((up_v e_nu28).symm).trans e_r4.symm
  · rw [x14, g2, if_pos ⟨rfl, by omega, by omega⟩, show 12 * (mu 0 17).toNatClampNeg + 5 + x - (12 * (mu 0 17).toNatClampNeg + 5) = x by omega]
    exact (congrFun (up_k e_nu28 (by decide)) x).trans ((congrFun (up_k e_nu23 (by decide)) x).trans ((congrFun (up_k e_nu17 (by decide)) x).trans ((congrFun (up_k e_nu11 (by decide)) x).trans (congrFun (up_k e_nu6 (by decide)) x))))
  · rw [x8_, hC, ← e_t42, qB, ← e_t37, qA, ← e_r4, ← e_r3]
  · exact (up_f e_x9 (by omega)).trans ((up_f e_xi55 (by omega)).trans ((up_f e_xi52 (by omega)).trans ((up_f e_xi48 (by omega)).trans ((up_f e_xi46 (by omega)).trans (congrFun w10 f)))))
  · exact (up_f e_x9 (by omega)).trans ((up_f e_xi55 (by omega)).trans ((up_f e_xi52 (by omega)).trans ((up_f e_xi48 (by omega)).trans (up_v e_xi46).symm)))
  · exact ((up_f e_x9 (by omega)).trans ((up_f e_xi55 (by omega)).trans ((up_f e_xi52 (by omega)).trans (up_v e_xi48).symm))).trans e_r4.symm
  · exact ((up_f e_x9 (by omega)).trans ((up_f e_xi55 (by omega)).trans (up_v e_xi52).symm)).trans (by rw [← e_t51, q7])
  · exact ((up_f e_x9 (by omega)).trans (up_v e_xi55).symm).trans qD
  · exact (up_v e_x9).symm

