def L_sj_fillB_5_0 (ka : Nat) (vv : Int32) : Nat → (Int32) → (Nat → Nat → Int32) → Nat → Nat → Int32
  | 0, v2_5, nu5_ => nu5_
  | n + 1, v2_5, nu5_ =>
    if v2_5 ≥ (80 : Int32) then (
      nu5_
    ) else (
      LETV (va_up nu5_ ka (upd (nu5_ ka) v2_5.toNatClampNeg (vp_nar .byte vv)) : Nat → Nat → Int32) fun nu3 =>
      LETV ((v2_5 + 1) : Int32) fun w5 =>
      L_sj_fillB_5_0 ka vv n (w5 : Int32) nu3
    )
def F_sj_fillB (mu : Nat → Nat → Int32) (ka : Nat) (vv : Int32) : Nat → Nat → Int32 :=
  L_sj_fillB_5_0 ka vv 83 (0 : Int32) mu
def F_sx_beBlanks (mu : Nat → Nat → Int32) (kk : Nat) (vn : Int32) : Nat → Nat → Int32 :=
  LETV (F_sj_fillB mu (kk + 13) (32 : Int32) : Nat → Nat → Int32) fun xi2 =>
  LETV (va_up xi2 kk (upd (xi2 kk) 1 vn) : Nat → Nat → Int32) fun nu4 =>
  nu4
def F_sx_figureAt (mu : Nat → Nat → Int32) (kk : Nat) (vi : Int32) : Int32 :=
  if vi < (0 : Int32) then (
    ((-9) : Int32)
  ) else (
    LETV (mu kk 1 : Int32) fun y2 =>
    if vi ≥ y2 then (
      ((-9) : Int32)
    ) else (
      LETV (mu (kk + 13) vi.toNatClampNeg : Int32) fun y5 =>
      if y5 < (48 : Int32) then (
        ((-9) : Int32)
      ) else (
        if y5 ≤ (57 : Int32) then (
          LETV (y5 - 48 : Int32) fun t10 =>
          (t10 : Int32)
        ) else (
          ((-9) : Int32)
        )
      )
    )
  )
def F_qx_text (mu : Nat → Nat → Int32) (vt : Int32) (vn : Int32) : Int32 × (Nat → Nat → Int32) :=
  if F_sx_isText (vt : Int32) = 1 then (
    if vn ≤ (80 : Int32) then (
      if vn ≥ (0 : Int32) then (
        LETV (F_sx_beBlanks mu (14 + vt.toNatClampNeg) (vn : Int32) : Nat → Nat → Int32) fun xi5 =>
        ((vn : Int32), xi5)
      ) else (
        LETP (F_sx_found mu (5 : Int32)) fun r7 xi7 =>
        ((r7 : Int32), xi7)
      )
    ) else (
      (((-1) : Int32), mu)
    )
  ) else (
    (((-1) : Int32), mu)
  )
