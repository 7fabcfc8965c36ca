theorem rM_0_18 {mu : Nat → Nat → Int32} (ok : okR loM hiM mu) : 0 ≤ (mu 0 18).toInt ∧ (mu 0 18).toInt ≤ 90 := ok 0 18
theorem rM_0_19 {mu : Nat → Nat → Int32} (ok : okR loM hiM mu) : 0 ≤ (mu 0 19).toInt ∧ (mu 0 19).toInt ≤ 7 := ok 0 19
theorem rM_0_20 {mu : Nat → Nat → Int32} (ok : okR loM hiM mu) : 0 ≤ (mu 0 20).toInt ∧ (mu 0 20).toInt ≤ 12 := ok 0 20
theorem hM_0_18 (cs : Nat → ClassId) (ad : Nat → Nat) (g : Nat → Int32) (v : Int32) : EM cs ad 0 (upd g 18 v) = .inr (12, [.int (g 0), .ref (ad 1), .int (g 2), .ref (ad 2), .ref (ad 3), .ref (ad 4), .ref (ad 5), .ref (ad 6), .int (g 8), .ref (ad 7), .ref (ad 8), .int (g 11), .ref (ad 9), .int (g 13), .int (g 14), .int (g 15), .ref (ad 10), .int (g 17), .int v, .int (g 19), .int (g 20), .ref (ad 11), .ref (ad 12), .ref (ad 13), .ref (ad 14), .ref (ad 15), .ref (ad 16), .ref (ad 17), .ref (ad 18), .int (g 29), .int (g 30), .int (g 31), .int (g 32), .int (g 33), .int (g 34), .int (g 35), .int (g 36), .int (g 37), .int (g 38), .int (g 39), .ref (ad 19), .ref (ad 20), .int (g 42), .int (g 43), .int (g 44), .long (jn (g 45) (g 46))]) := by
  rfl
theorem tM_0_18 {mu : Nat → Nat → Int32} (ok : okR loM hiM mu) {nu : Nat → Nat → Int32} {v : Int32} (hn : va_up mu 0 (upd (mu 0) 18 v) = nu) (hv : 0 ≤ v.toInt ∧ v.toInt ≤ 90) : okR loM hiM nu := by
  subst hn
  exact okR_up ok 0 18 v hv.1 hv.2
theorem tM_11_s {mu : Nat → Nat → Int32} (ok : okR loM hiM mu) {nu : Nat → Nat → Int32} {v : Int32} (f : Nat) (hn : va_up mu 11 (upd (mu 11) f v) = nu) : okR loM hiM nu := by
  subst hn
  exact okR_up ok 11 f v (tI_lo v) (tI_hi v)
theorem tM_12_s {mu : Nat → Nat → Int32} (ok : okR loM hiM mu) {nu : Nat → Nat → Int32} {v : Int32} (f : Nat) (hn : va_up mu 12 (upd (mu 12) f v) = nu) : okR loM hiM nu := by
  subst hn
  exact okR_up ok 12 f v (tI_lo v) (tI_hi v)
theorem hM_0_19 (cs : Nat → ClassId) (ad : Nat → Nat) (g : Nat → Int32) (v : Int32) : EM cs ad 0 (upd g 19 v) = .inr (12, [.int (g 0), .ref (ad 1), .int (g 2), .ref (ad 2), .ref (ad 3), .ref (ad 4), .ref (ad 5), .ref (ad 6), .int (g 8), .ref (ad 7), .ref (ad 8), .int (g 11), .ref (ad 9), .int (g 13), .int (g 14), .int (g 15), .ref (ad 10), .int (g 17), .int (g 18), .int v, .int (g 20), .ref (ad 11), .ref (ad 12), .ref (ad 13), .ref (ad 14), .ref (ad 15), .ref (ad 16), .ref (ad 17), .ref (ad 18), .int (g 29), .int (g 30), .int (g 31), .int (g 32), .int (g 33), .int (g 34), .int (g 35), .int (g 36), .int (g 37), .int (g 38), .int (g 39), .ref (ad 19), .ref (ad 20), .int (g 42), .int (g 43), .int (g 44), .long (jn (g 45) (g 46))]) := by
  rfl
theorem tM_0_19 {mu : Nat → Nat → Int32} (ok : okR loM hiM mu) {nu : Nat → Nat → Int32} {v : Int32} (hn : va_up mu 0 (upd (mu 0) 19 v) = nu) (hv : 0 ≤ v.toInt ∧ v.toInt ≤ 7) : okR loM hiM nu := by
  subst hn
  exact okR_up ok 0 19 v hv.1 hv.2
theorem hM_0_20 (cs : Nat → ClassId) (ad : Nat → Nat) (g : Nat → Int32) (v : Int32) : EM cs ad 0 (upd g 20 v) = .inr (12, [.int (g 0), .ref (ad 1), .int (g 2), .ref (ad 2), .ref (ad 3), .ref (ad 4), .ref (ad 5), .ref (ad 6), .int (g 8), .ref (ad 7), .ref (ad 8), .int (g 11), .ref (ad 9), .int (g 13), .int (g 14), .int (g 15), .ref (ad 10), .int (g 17), .int (g 18), .int (g 19), .int v, .ref (ad 11), .ref (ad 12), .ref (ad 13), .ref (ad 14), .ref (ad 15), .ref (ad 16), .ref (ad 17), .ref (ad 18), .int (g 29), .int (g 30), .int (g 31), .int (g 32), .int (g 33), .int (g 34), .int (g 35), .int (g 36), .int (g 37), .int (g 38), .int (g 39), .ref (ad 19), .ref (ad 20), .int (g 42), .int (g 43), .int (g 44), .long (jn (g 45) (g 46))]) := by
  rfl
theorem tM_0_20 {mu : Nat → Nat → Int32} (ok : okR loM hiM mu) {nu : Nat → Nat → Int32} {v : Int32} (hn : va_up mu 0 (upd (mu 0) 20 v) = nu) (hv : 0 ≤ v.toInt ∧ v.toInt ≤ 12) : okR loM hiM nu := by
  subst hn
  exact okR_up ok 0 20 v hv.1 hv.2
theorem tM_13_s {mu : Nat → Nat → Int32} (ok : okR loM hiM mu) {nu : Nat → Nat → Int32} {v : Int32} (f : Nat) (hn : va_up mu 13 (upd (mu 13) f v) = nu) : okR loM hiM nu := by
  subst hn
  exact okR_up ok 13 f v (tI_lo v) (tI_hi v)
theorem hM_0_8 (cs : Nat → ClassId) (ad : Nat → Nat) (g : Nat → Int32) (v : Int32) : EM cs ad 0 (upd g 8 v) = .inr (12, [.int (g 0), .ref (ad 1), .int (g 2), .ref (ad 2), .ref (ad 3), .ref (ad 4), .ref (ad 5), .ref (ad 6), .int v, .ref (ad 7), .ref (ad 8), .int (g 11), .ref (ad 9), .int (g 13), .int (g 14), .int (g 15), .ref (ad 10), .int (g 17), .int (g 18), .int (g 19), .int (g 20), .ref (ad 11), .ref (ad 12), .ref (ad 13), .ref (ad 14), .ref (ad 15), .ref (ad 16), .ref (ad 17), .ref (ad 18), .int (g 29), .int (g 30), .int (g 31), .int (g 32), .int (g 33), .int (g 34), .int (g 35), .int (g 36), .int (g 37), .int (g 38), .int (g 39), .ref (ad 19), .ref (ad 20), .int (g 42), .int (g 43), .int (g 44), .long (jn (g 45) (g 46))]) := by
  rfl
theorem tM_0_8 {mu : Nat → Nat → Int32} (ok : okR loM hiM mu) {nu : Nat → Nat → Int32} {v : Int32} (hn : va_up mu 0 (upd (mu 0) 8 v) = nu) (hv : 0 ≤ v.toInt ∧ v.toInt ≤ 7) : okR loM hiM nu := by
  subst hn
  exact okR_up ok 0 8 v hv.1 hv.2
theorem hM_0_11 (cs : Nat → ClassId) (ad : Nat → Nat) (g : Nat → Int32) (v : Int32) : EM cs ad 0 (upd g 11 v) = .inr (12, [.int (g 0), .ref (ad 1), .int (g 2), .ref (ad 2), .ref (ad 3), .ref (ad 4), .ref (ad 5), .ref (ad 6), .int (g 8), .ref (ad 7), .ref (ad 8), .int v, .ref (ad 9), .int (g 13), .int (g 14), .int (g 15), .ref (ad 10), .int (g 17), .int (g 18), .int (g 19), .int (g 20), .ref (ad 11), .ref (ad 12), .ref (ad 13), .ref (ad 14), .ref (ad 15), .ref (ad 16), .ref (ad 17), .ref (ad 18), .int (g 29), .int (g 30), .int (g 31), .int (g 32), .int (g 33), .int (g 34), .int (g 35), .int (g 36), .int (g 37), .int (g 38), .int (g 39), .ref (ad 19), .ref (ad 20), .int (g 42), .int (g 43), .int (g 44), .long (jn (g 45) (g 46))]) := by
  rfl
theorem tM_0_11 {mu : Nat → Nat → Int32} (ok : okR loM hiM mu) {nu : Nat → Nat → Int32} {v : Int32} (hn : va_up mu 0 (upd (mu 0) 11 v) = nu) (hv : 0 ≤ v.toInt ∧ v.toInt ≤ 12) : okR loM hiM nu := by
  subst hn
  exact okR_up ok 0 11 v hv.1 hv.2
theorem hM_0_13 (cs : Nat → ClassId) (ad : Nat → Nat) (g : Nat → Int32) (v : Int32) : EM cs ad 0 (upd g 13 v) = .inr (12, [.int (g 0), .ref (ad 1), .int (g 2), .ref (ad 2), .ref (ad 3), .ref (ad 4), .ref (ad 5), .ref (ad 6), .int (g 8), .ref (ad 7), .ref (ad 8), .int (g 11), .ref (ad 9), .int v, .int (g 14), .int (g 15), .ref (ad 10), .int (g 17), .int (g 18), .int (g 19), .int (g 20), .ref (ad 11), .ref (ad 12), .ref (ad 13), .ref (ad 14), .ref (ad 15), .ref (ad 16), .ref (ad 17), .ref (ad 18), .int (g 29), .int (g 30), .int (g 31), .int (g 32), .int (g 33), .int (g 34), .int (g 35), .int (g 36), .int (g 37), .int (g 38), .int (g 39), .ref (ad 19), .ref (ad 20), .int (g 42), .int (g 43), .int (g 44), .long (jn (g 45) (g 46))]) := by
  rfl
theorem tM_0_13 {mu : Nat → Nat → Int32} (ok : okR loM hiM mu) {nu : Nat → Nat → Int32} {v : Int32} (hn : va_up mu 0 (upd (mu 0) 13 v) = nu) : okR loM hiM nu := by
  subst hn
  exact okR_up ok 0 13 v (tI_lo v) (tI_hi v)
theorem hM_0_14 (cs : Nat → ClassId) (ad : Nat → Nat) (g : Nat → Int32) (v : Int32) : EM cs ad 0 (upd g 14 v) = .inr (12, [.int (g 0), .ref (ad 1), .int (g 2), .ref (ad 2), .ref (ad 3), .ref (ad 4), .ref (ad 5), .ref (ad 6), .int (g 8), .ref (ad 7), .ref (ad 8), .int (g 11), .ref (ad 9), .int (g 13), .int v, .int (g 15), .ref (ad 10), .int (g 17), .int (g 18), .int (g 19), .int (g 20), .ref (ad 11), .ref (ad 12), .ref (ad 13), .ref (ad 14), .ref (ad 15), .ref (ad 16), .ref (ad 17), .ref (ad 18), .int (g 29), .int (g 30), .int (g 31), .int (g 32), .int (g 33), .int (g 34), .int (g 35), .int (g 36), .int (g 37), .int (g 38), .int (g 39), .ref (ad 19), .ref (ad 20), .int (g 42), .int (g 43), .int (g 44), .long (jn (g 45) (g 46))]) := by
  rfl
theorem tM_0_14 {mu : Nat → Nat → Int32} (ok : okR loM hiM mu) {nu : Nat → Nat → Int32} {v : Int32} (hn : va_up mu 0 (upd (mu 0) 14 v) = nu) : okR loM hiM nu := by
  subst hn
  exact okR_up ok 0 14 v (tI_lo v) (tI_hi v)
theorem hM_0_15 (cs : Nat → ClassId) (ad : Nat → Nat) (g : Nat → Int32) (v : Int32) : EM cs ad 0 (upd g 15 v) = .inr (12, [.int (g 0), .ref (ad 1), .int (g 2), .ref (ad 2), .ref (ad 3), .ref (ad 4), .ref (ad 5), .ref (ad 6), .int (g 8), .ref (ad 7), .ref (ad 8), .int (g 11), .ref (ad 9), .int (g 13), .int (g 14), .int v, .ref (ad 10), .int (g 17), .int (g 18), .int (g 19), .int (g 20), .ref (ad 11), .ref (ad 12), .ref (ad 13), .ref (ad 14), .ref (ad 15), .ref (ad 16), .ref (ad 17), .ref (ad 18), .int (g 29), .int (g 30), .int (g 31), .int (g 32), .int (g 33), .int (g 34), .int (g 35), .int (g 36), .int (g 37), .int (g 38), .int (g 39), .ref (ad 19), .ref (ad 20), .int (g 42), .int (g 43), .int (g 44), .long (jn (g 45) (g 46))]) := by
  rfl
theorem tM_0_15 {mu : Nat → Nat → Int32} (ok : okR loM hiM mu) {nu : Nat → Nat → Int32} {v : Int32} (hn : va_up mu 0 (upd (mu 0) 15 v) = nu) (hv : 0 ≤ v.toInt ∧ v.toInt ≤ 4) : okR loM hiM nu := by
  subst hn
  exact okR_up ok 0 15 v hv.1 hv.2
theorem hM_0_17 (cs : Nat → ClassId) (ad : Nat → Nat) (g : Nat → Int32) (v : Int32) : EM cs ad 0 (upd g 17 v) = .inr (12, [.int (g 0), .ref (ad 1), .int (g 2), .ref (ad 2), .ref (ad 3), .ref (ad 4), .ref (ad 5), .ref (ad 6), .int (g 8), .ref (ad 7), .ref (ad 8), .int (g 11), .ref (ad 9), .int (g 13), .int (g 14), .int (g 15), .ref (ad 10), .int v, .int (g 18), .int (g 19), .int (g 20), .ref (ad 11), .ref (ad 12), .ref (ad 13), .ref (ad 14), .ref (ad 15), .ref (ad 16), .ref (ad 17), .ref (ad 18), .int (g 29), .int (g 30), .int (g 31), .int (g 32), .int (g 33), .int (g 34), .int (g 35), .int (g 36), .int (g 37), .int (g 38), .int (g 39), .ref (ad 19), .ref (ad 20), .int (g 42), .int (g 43), .int (g 44), .long (jn (g 45) (g 46))]) := by
  rfl
theorem tM_0_17 {mu : Nat → Nat → Int32} (ok : okR loM hiM mu) {nu : Nat → Nat → Int32} {v : Int32} (hn : va_up mu 0 (upd (mu 0) 17 v) = nu) (hv : 0 ≤ v.toInt ∧ v.toInt ≤ 40) : okR loM hiM nu := by
  subst hn
  exact okR_up ok 0 17 v hv.1 hv.2
theorem rM_0_8 {mu : Nat → Nat → Int32} (ok : okR loM hiM mu) : 0 ≤ (mu 0 8).toInt ∧ (mu 0 8).toInt ≤ 7 := ok 0 8
theorem tM_15_s {mu : Nat → Nat → Int32} (ok : okR loM hiM mu) {nu : Nat → Nat → Int32} {v : Int32} (f : Nat) (hn : va_up mu 15 (upd (mu 15) f v) = nu) (hv : (f % 64 = 2 → 0 ≤ v.toInt ∧ v.toInt ≤ 4) ∧ (f % 64 = 15 → 0 ≤ v.toInt ∧ v.toInt ≤ 6) ∧ (f % 64 = 25 → 0 ≤ v.toInt ∧ v.toInt ≤ 6) ∧ (f % 64 = 35 → 0 ≤ v.toInt ∧ v.toInt ≤ 6) ∧ (f % 64 = 45 → 0 ≤ v.toInt ∧ v.toInt ≤ 6)) : okR loM hiM nu := by
  subst hn
  exact okR_up ok 15 f v (by
    show (if f % 64 = 2 then 0 else if f % 64 = 15 then 0 else if f % 64 = 25 then 0 else if f % 64 = 35 then 0 else if f % 64 = 45 then 0 else -2147483648) ≤ v.toInt
    have h8 := tI_lo v
    (repeat' split) <;> omega) (by
    show v.toInt ≤ (if f % 64 = 2 then 4 else if f % 64 = 15 then 6 else if f % 64 = 25 then 6 else if f % 64 = 35 then 6 else if f % 64 = 45 then 6 else 2147483647)
    have h8 := tI_hi v
    (repeat' split) <;> omega)
theorem tM_9_s {mu : Nat → Nat → Int32} (ok : okR loM hiM mu) {nu : Nat → Nat → Int32} {v : Int32} (f : Nat) (hn : va_up mu 9 (upd (mu 9) f v) = nu) : okR loM hiM nu := by
  subst hn
  exact okR_up ok 9 f v (tI_lo v) (tI_hi v)
theorem tM_7_s {mu : Nat → Nat → Int32} (ok : okR loM hiM mu) {nu : Nat → Nat → Int32} {v : Int32} (f : Nat) (hn : va_up mu 7 (upd (mu 7) f v) = nu) : okR loM hiM nu := by
  subst hn
  exact okR_up ok 7 f v (tI_lo v) (tI_hi v)
theorem tM_8_s {mu : Nat → Nat → Int32} (ok : okR loM hiM mu) {nu : Nat → Nat → Int32} {v : Int32} (f : Nat) (hn : va_up mu 8 (upd (mu 8) f v) = nu) : okR loM hiM nu := by
  subst hn
  exact okR_up ok 8 f v (tI_lo v) (tI_hi v)
