theorem hX_letter_0 (cs : Nat → ClassId) (ad : Nat → Nat) (g : Nat → Int32) (v : Int32) (k : Nat) (h1 : 61 ≤ k) (h2 : k < 77) : EX cs ad k (upd g 0 v) = .inr (3, [.int v, .int (g 1), .int (g 2), .int (g 3), .int (g 4), .int (g 5), .int (g 6), .int (g 7), .int (g 8), .int (g 9)]) := by
  rw [EX_letter cs ad _ _ h1 h2]; rfl
theorem tX_letter_0 {mu : Nat → Nat → Int32} (ok : okR loX hiX mu) {nu : Nat → Nat → Int32} {v : Int32} (k : Nat) (h1 : 61 ≤ k) (h2 : k < 77) (hn : va_up mu k (upd (mu k) 0 v) = nu) : okR loX hiX nu := by
  subst hn
  exact okR_up ok k 0 v (by unfold loX; rw [clX_letter k h1 h2]; exact tI_lo v) (by unfold hiX; rw [clX_letter k h1 h2]; exact tI_hi v)
theorem hX_letter_1 (cs : Nat → ClassId) (ad : Nat → Nat) (g : Nat → Int32) (v : Int32) (k : Nat) (h1 : 61 ≤ k) (h2 : k < 77) : EX cs ad k (upd g 1 v) = .inr (3, [.int (g 0), .int v, .int (g 2), .int (g 3), .int (g 4), .int (g 5), .int (g 6), .int (g 7), .int (g 8), .int (g 9)]) := by
  rw [EX_letter cs ad _ _ h1 h2]; rfl
theorem tX_letter_1 {mu : Nat → Nat → Int32} (ok : okR loX hiX mu) {nu : Nat → Nat → Int32} {v : Int32} (k : Nat) (h1 : 61 ≤ k) (h2 : k < 77) (hn : va_up mu k (upd (mu k) 1 v) = nu) (hv : 0 ≤ v.toInt ∧ v.toInt ≤ 6) : okR loX hiX nu := by
  subst hn
  exact okR_up ok k 1 v (by unfold loX; rw [clX_letter k h1 h2]; exact hv.1) (by unfold hiX; rw [clX_letter k h1 h2]; exact hv.2)
theorem hX_letter_2 (cs : Nat → ClassId) (ad : Nat → Nat) (g : Nat → Int32) (v : Int32) (k : Nat) (h1 : 61 ≤ k) (h2 : k < 77) : EX cs ad k (upd g 2 v) = .inr (3, [.int (g 0), .int (g 1), .int v, .int (g 3), .int (g 4), .int (g 5), .int (g 6), .int (g 7), .int (g 8), .int (g 9)]) := by
  rw [EX_letter cs ad _ _ h1 h2]; rfl
theorem tX_letter_2 {mu : Nat → Nat → Int32} (ok : okR loX hiX mu) {nu : Nat → Nat → Int32} {v : Int32} (k : Nat) (h1 : 61 ≤ k) (h2 : k < 77) (hn : va_up mu k (upd (mu k) 2 v) = nu) : okR loX hiX nu := by
  subst hn
  exact okR_up ok k 2 v (by unfold loX; rw [clX_letter k h1 h2]; exact tI_lo v) (by unfold hiX; rw [clX_letter k h1 h2]; exact tI_hi v)
theorem hX_letter_3 (cs : Nat → ClassId) (ad : Nat → Nat) (g : Nat → Int32) (v : Int32) (k : Nat) (h1 : 61 ≤ k) (h2 : k < 77) : EX cs ad k (upd g 3 v) = .inr (3, [.int (g 0), .int (g 1), .int (g 2), .int v, .int (g 4), .int (g 5), .int (g 6), .int (g 7), .int (g 8), .int (g 9)]) := by
  rw [EX_letter cs ad _ _ h1 h2]; rfl
theorem tX_letter_3 {mu : Nat → Nat → Int32} (ok : okR loX hiX mu) {nu : Nat → Nat → Int32} {v : Int32} (k : Nat) (h1 : 61 ≤ k) (h2 : k < 77) (hn : va_up mu k (upd (mu k) 3 v) = nu) : okR loX hiX nu := by
  subst hn
  exact okR_up ok k 3 v (by unfold loX; rw [clX_letter k h1 h2]; exact tI_lo v) (by unfold hiX; rw [clX_letter k h1 h2]; exact tI_hi v)
theorem hX_letter_4 (cs : Nat → ClassId) (ad : Nat → Nat) (g : Nat → Int32) (v : Int32) (k : Nat) (h1 : 61 ≤ k) (h2 : k < 77) : EX cs ad k (upd g 4 v) = .inr (3, [.int (g 0), .int (g 1), .int (g 2), .int (g 3), .int v, .int (g 5), .int (g 6), .int (g 7), .int (g 8), .int (g 9)]) := by
  rw [EX_letter cs ad _ _ h1 h2]; rfl
theorem tX_letter_4 {mu : Nat → Nat → Int32} (ok : okR loX hiX mu) {nu : Nat → Nat → Int32} {v : Int32} (k : Nat) (h1 : 61 ≤ k) (h2 : k < 77) (hn : va_up mu k (upd (mu k) 4 v) = nu) : okR loX hiX nu := by
  subst hn
  exact okR_up ok k 4 v (by unfold loX; rw [clX_letter k h1 h2]; exact tI_lo v) (by unfold hiX; rw [clX_letter k h1 h2]; exact tI_hi v)
theorem hX_letter_5 (cs : Nat → ClassId) (ad : Nat → Nat) (g : Nat → Int32) (v : Int32) (k : Nat) (h1 : 61 ≤ k) (h2 : k < 77) : EX cs ad k (upd g 5 v) = .inr (3, [.int (g 0), .int (g 1), .int (g 2), .int (g 3), .int (g 4), .int v, .int (g 6), .int (g 7), .int (g 8), .int (g 9)]) := by
  rw [EX_letter cs ad _ _ h1 h2]; rfl
theorem tX_letter_5 {mu : Nat → Nat → Int32} (ok : okR loX hiX mu) {nu : Nat → Nat → Int32} {v : Int32} (k : Nat) (h1 : 61 ≤ k) (h2 : k < 77) (hn : va_up mu k (upd (mu k) 5 v) = nu) (hv : 0 ≤ v.toInt ∧ v.toInt ≤ 6) : okR loX hiX nu := by
  subst hn
  exact okR_up ok k 5 v (by unfold loX; rw [clX_letter k h1 h2]; exact hv.1) (by unfold hiX; rw [clX_letter k h1 h2]; exact hv.2)
theorem hX_letter_6 (cs : Nat → ClassId) (ad : Nat → Nat) (g : Nat → Int32) (v : Int32) (k : Nat) (h1 : 61 ≤ k) (h2 : k < 77) : EX cs ad k (upd g 6 v) = .inr (3, [.int (g 0), .int (g 1), .int (g 2), .int (g 3), .int (g 4), .int (g 5), .int v, .int (g 7), .int (g 8), .int (g 9)]) := by
  rw [EX_letter cs ad _ _ h1 h2]; rfl
theorem tX_letter_6 {mu : Nat → Nat → Int32} (ok : okR loX hiX mu) {nu : Nat → Nat → Int32} {v : Int32} (k : Nat) (h1 : 61 ≤ k) (h2 : k < 77) (hn : va_up mu k (upd (mu k) 6 v) = nu) : okR loX hiX nu := by
  subst hn
  exact okR_up ok k 6 v (by unfold loX; rw [clX_letter k h1 h2]; exact tI_lo v) (by unfold hiX; rw [clX_letter k h1 h2]; exact tI_hi v)
theorem hX_letter_7 (cs : Nat → ClassId) (ad : Nat → Nat) (g : Nat → Int32) (v : Int32) (k : Nat) (h1 : 61 ≤ k) (h2 : k < 77) : EX cs ad k (upd g 7 v) = .inr (3, [.int (g 0), .int (g 1), .int (g 2), .int (g 3), .int (g 4), .int (g 5), .int (g 6), .int v, .int (g 8), .int (g 9)]) := by
  rw [EX_letter cs ad _ _ h1 h2]; rfl
theorem tX_letter_7 {mu : Nat → Nat → Int32} (ok : okR loX hiX mu) {nu : Nat → Nat → Int32} {v : Int32} (k : Nat) (h1 : 61 ≤ k) (h2 : k < 77) (hn : va_up mu k (upd (mu k) 7 v) = nu) : okR loX hiX nu := by
  subst hn
  exact okR_up ok k 7 v (by unfold loX; rw [clX_letter k h1 h2]; exact tI_lo v) (by unfold hiX; rw [clX_letter k h1 h2]; exact tI_hi v)
theorem hX_letter_8 (cs : Nat → ClassId) (ad : Nat → Nat) (g : Nat → Int32) (v : Int32) (k : Nat) (h1 : 61 ≤ k) (h2 : k < 77) : EX cs ad k (upd g 8 v) = .inr (3, [.int (g 0), .int (g 1), .int (g 2), .int (g 3), .int (g 4), .int (g 5), .int (g 6), .int (g 7), .int v, .int (g 9)]) := by
  rw [EX_letter cs ad _ _ h1 h2]; rfl
theorem tX_letter_8 {mu : Nat → Nat → Int32} (ok : okR loX hiX mu) {nu : Nat → Nat → Int32} {v : Int32} (k : Nat) (h1 : 61 ≤ k) (h2 : k < 77) (hn : va_up mu k (upd (mu k) 8 v) = nu) : okR loX hiX nu := by
  subst hn
  exact okR_up ok k 8 v (by unfold loX; rw [clX_letter k h1 h2]; exact tI_lo v) (by unfold hiX; rw [clX_letter k h1 h2]; exact tI_hi v)
theorem hX_letter_9 (cs : Nat → ClassId) (ad : Nat → Nat) (g : Nat → Int32) (v : Int32) (k : Nat) (h1 : 61 ≤ k) (h2 : k < 77) : EX cs ad k (upd g 9 v) = .inr (3, [.int (g 0), .int (g 1), .int (g 2), .int (g 3), .int (g 4), .int (g 5), .int (g 6), .int (g 7), .int (g 8), .int v]) := by
  rw [EX_letter cs ad _ _ h1 h2]; rfl
theorem tX_letter_9 {mu : Nat → Nat → Int32} (ok : okR loX hiX mu) {nu : Nat → Nat → Int32} {v : Int32} (k : Nat) (h1 : 61 ≤ k) (h2 : k < 77) (hn : va_up mu k (upd (mu k) 9 v) = nu) (hv : 0 ≤ v.toInt ∧ v.toInt ≤ 1) : okR loX hiX nu := by
  subst hn
  exact okR_up ok k 9 v (by unfold loX; rw [clX_letter k h1 h2]; exact hv.1) (by unfold hiX; rw [clX_letter k h1 h2]; exact hv.2)
