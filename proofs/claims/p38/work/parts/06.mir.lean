-- ===== what a method computes: a tree of lets, ifs, calls, loops =====
def LETV {α β : Type} (e : α) (K : α → β) : β := K e
def LETP {α γ β : Type} (p : α × γ) (K : α → γ → β) : β := K p.1 p.2
theorem mi_let {α β : Type} {e t : α} {K : α → β} {z : β} (h : LETV e K = z) (et : t = e) : K t = z := by
  subst et
  exact h
theorem mi_letp {α γ β : Type} {p : α × γ} {a : α} {b : γ} {K : α → γ → β} {z : β} (h : LETP p K = z) (et : (a, b) = p) : K a b = z := by
  subst et
  exact h
theorem mi_fork {α β : Type} {e : α} {K : α → β} {z : β} (h : LETV e K = z) : ∃ j : α, j = e ∧ K j = z := ⟨e, rfl, h⟩
