def L_sj_fillI_places_5_0 (ka : Nat) (vv : Int32) : Nat → (Int32) → (Nat → Nat → Int32) → Nat → Nat → Int32
  | 0, v2_5, nu5_ => nu5_
  | n + 1, v2_5, nu5_ =>
    if v2_5 ≥ (40 : Int32) then (
      nu5_
    ) else (
      LETV (va_up nu5_ ka (upd (nu5_ ka) v2_5.toNatClampNeg vv) : Nat → Nat → Int32) fun nu2 =>
      LETV ((v2_5 + 1) : Int32) fun w4 =>
      L_sj_fillI_places_5_0 ka vv n (w4 : Int32) nu2
    )
def F_sj_fillI_places (mu : Nat → Nat → Int32) (ka : Nat) (vv : Int32) : Nat → Nat → Int32 :=
  L_sj_fillI_places_5_0 ka vv 43 (0 : Int32) mu
def L_sj_fillI_37_5_0 (vv : Int32) : Nat → (Int32) → (Nat → Nat → Int32) → Nat → Nat → Int32
  | 0, v2_5, nu5_ => nu5_
  | n + 1, v2_5, nu5_ =>
    if v2_5 ≥ (7 : Int32) then (
      nu5_
    ) else (
      LETV (va_up nu5_ 37 (upd (nu5_ 37) v2_5.toNatClampNeg vv) : Nat → Nat → Int32) fun nu2 =>
      LETV ((v2_5 + 1) : Int32) fun w4 =>
      L_sj_fillI_37_5_0 vv n (w4 : Int32) nu2
    )
def F_sj_fillI_37 (mu : Nat → Nat → Int32) (vv : Int32) : Nat → Nat → Int32 :=
  L_sj_fillI_37_5_0 vv 10 (0 : Int32) mu
def L_sj_fillB_5_0 (ka : Nat) (vv : Int32) : Nat → (Int32) → (Nat → Nat → Int32) → Nat → Nat → Int32
  | 0, v2_5, nu5_ => nu5_
  | n + 1, v2_5, nu5_ =>
    if v2_5 ≥ (80 : Int32) then (
      nu5_
    ) else (
      LETV (va_up nu5_ ka (upd (nu5_ ka) v2_5.toNatClampNeg (vp_nar .byte vv)) : Nat → Nat → Int32) fun nu3 =>
      LETV ((v2_5 + 1) : Int32) fun w5 =>
      L_sj_fillB_5_0 ka vv n (w5 : Int32) nu3
    )
def F_sj_fillB (mu : Nat → Nat → Int32) (ka : Nat) (vv : Int32) : Nat → Nat → Int32 :=
  L_sj_fillB_5_0 ka vv 83 (0 : Int32) mu
def F_sx_beZeros (mu : Nat → Nat → Int32) (kk : Nat) (vn : Int32) : Nat → Nat → Int32 :=
  LETV (F_sj_fillI_places mu (kk + 13) (0 : Int32) : Nat → Nat → Int32) fun xi2 =>
  LETV (va_up xi2 kk (upd (xi2 kk) 1 vn) : Nat → Nat → Int32) fun nu4 =>
  nu4
def F_sx_beBlanks (mu : Nat → Nat → Int32) (kk : Nat) (vn : Int32) : Nat → Nat → Int32 :=
  LETV (F_sj_fillB mu (kk + 13) (32 : Int32) : Nat → Nat → Int32) fun xi2 =>
  LETV (va_up xi2 kk (upd (xi2 kk) 1 vn) : Nat → Nat → Int32) fun nu4 =>
  nu4
def F_sx_Row_beLike57 (mu : Nat → Nat → Int32) (kk : Nat) (vn : Int32) : Nat → Nat → Int32 :=
  LETV (va_up mu (kk + 13) (va_cpy (mu 57) (mu (kk + 13)) (0 : Int32).toNatClampNeg (0 : Int32).toNatClampNeg (vn : Int32).toNatClampNeg) : Nat → Nat → Int32) fun nu2 =>
  LETV (va_up nu2 kk (upd (nu2 kk) 1 vn) : Nat → Nat → Int32) fun nu4 =>
  nu4
def F_sx_Row_beLike58 (mu : Nat → Nat → Int32) (kk : Nat) (vn : Int32) : Nat → Nat → Int32 :=
  LETV (va_up mu (kk + 13) (va_cpy (mu 58) (mu (kk + 13)) (0 : Int32).toNatClampNeg (0 : Int32).toNatClampNeg (vn : Int32).toNatClampNeg) : Nat → Nat → Int32) fun nu2 =>
  LETV (va_up nu2 kk (upd (nu2 kk) 1 vn) : Nat → Nat → Int32) fun nu4 =>
  nu4
def F_sx_Row_beLike60 (mu : Nat → Nat → Int32) (kk : Nat) (vn : Int32) : Nat → Nat → Int32 :=
  LETV (va_up mu (kk + 13) (va_cpy (mu 60) (mu (kk + 13)) (0 : Int32).toNatClampNeg (0 : Int32).toNatClampNeg (vn : Int32).toNatClampNeg) : Nat → Nat → Int32) fun nu2 =>
  LETV (va_up nu2 kk (upd (nu2 kk) 1 vn) : Nat → Nat → Int32) fun nu4 =>
  nu4
def F_sx_figureAt (mu : Nat → Nat → Int32) (kk : Nat) (vi : Int32) : Int32 :=
  if vi < (0 : Int32) then (
    ((-9) : Int32)
  ) else (
    LETV (mu kk 1 : Int32) fun y2 =>
    if vi ≥ y2 then (
      ((-9) : Int32)
    ) else (
      LETV (mu (kk + 13) vi.toNatClampNeg : Int32) fun y5 =>
      if y5 < (48 : Int32) then (
        ((-9) : Int32)
      ) else (
        if y5 ≤ (57 : Int32) then (
          LETV (y5 - 48 : Int32) fun t10 =>
          (t10 : Int32)
        ) else (
          ((-9) : Int32)
        )
      )
    )
  )
def F_qx_text (mu : Nat → Nat → Int32) (vt : Int32) (vn : Int32) : Int32 × (Nat → Nat → Int32) :=
  if F_sx_isText (vt : Int32) = 1 then (
    if vn ≤ (80 : Int32) then (
      if vn ≥ (0 : Int32) then (
        LETV (F_sx_beBlanks mu (14 + vt.toNatClampNeg) (vn : Int32) : Nat → Nat → Int32) fun xi5 =>
        ((vn : Int32), xi5)
      ) else (
        LETP (F_sx_found mu (5 : Int32)) fun r7 xi7 =>
        ((r7 : Int32), xi7)
      )
    ) else (
      (((-1) : Int32), mu)
    )
  ) else (
    (((-1) : Int32), mu)
  )
