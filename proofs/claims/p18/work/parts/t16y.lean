def L_qm_undo_128_1 (t9 : Int32) (v3_28 : Int32) (k_qm_undo_28_0 : (Int32) → (Nat → Nat → Int32) → (Int32 × (Nat → Nat → Int32))) : Nat → (Int32) → (Nat → Nat → Int32) → Int32 × (Nat → Nat → Int32)
  | 0, v6_128, nu128_ => (0, nu128_)
  | n + 1, v6_128, nu128_ =>
    if v6_128 ≥ (7 : Int32) then (
      LETV ((v3_28 + (-1)) : Int32) fun w34 =>
      k_qm_undo_28_0 (w34 : Int32) nu128_
    ) else (
      LETV (t9 + 5 : Int32) fun t35 =>
      LETV (t35 + v6_128 : Int32) fun t36 =>
      LETV (nu128_ 14 t36.toNatClampNeg : Int32) fun y38 =>
      LETV (va_up nu128_ 8 (upd (nu128_ 8) v6_128.toNatClampNeg y38) : Nat → Nat → Int32) fun nu39 =>
      LETV ((v6_128 + 1) : Int32) fun w42 =>
      L_qm_undo_128_1 t9 v3_28 k_qm_undo_28_0 n (w42 : Int32) nu39
    )
def L_qm_undo_28_0 (t3 : Int32) (vn : Int32) : Nat → (Int32) → (Nat → Nat → Int32) → Int32 × (Nat → Nat → Int32)
  | 0, v3_28, nu28_ => (0, nu28_)
  | n + 1, v3_28, nu28_ =>
    if v3_28 < vn then (
      LETV (va_up nu28_ 0 (upd (nu28_ 0) 17 vn) : Nat → Nat → Int32) fun nu6 =>
      ((t3 : Int32), nu6)
    ) else (
      LETV (12 * v3_28 : Int32) fun t9 =>
      LETV (nu28_ 14 t9.toNatClampNeg : Int32) fun y11 =>
      LETV (t9 + 1 : Int32) fun t12 =>
      LETV (nu28_ 14 t12.toNatClampNeg : Int32) fun y14 =>
      LETV (F_sm_setLetter5 nu28_ (y11 : Int32) (y14 : Int32) : Nat → Nat → Int32) fun xi15 =>
      LETV (t9 + 2 : Int32) fun t17 =>
      LETV (xi15 14 t17.toNatClampNeg : Int32) fun y19 =>
      LETV (F_sm_setLetter6 xi15 (y11 : Int32) (y19 : Int32) : Nat → Nat → Int32) fun xi20 =>
      LETV (t9 + 3 : Int32) fun t22 =>
      LETV (xi20 14 t22.toNatClampNeg : Int32) fun y24 =>
      LETV (F_sm_setLetter8 xi20 (y11 : Int32) (y24 : Int32) : Nat → Nat → Int32) fun xi25 =>
      LETV (F_sm_letterOf xi25 (y11 : Int32) (7 : Int32) : Int32) fun r27 =>
      LETV (r27 - 1 : Int32) fun t28 =>
      LETV (F_sm_setLetter7 xi25 (y11 : Int32) (t28 : Int32) : Nat → Nat → Int32) fun xi29 =>
      LETV (F_sm_setLetter9 xi29 (y11 : Int32) (0 : Int32) : Nat → Nat → Int32) fun xi31 =>
      L_qm_undo_128_1 t9 v3_28 (fun z_v3_28 z_nu28_ => L_qm_undo_28_0 t3 vn n z_v3_28 z_nu28_) 10 (0 : Int32) xi31
    )
def F_qm_undo (mu : Nat → Nat → Int32) (vn : Int32) : Int32 × (Nat → Nat → Int32) :=
  LETV (mu 0 17 : Int32) fun y1 =>
  if F_sm_in (vn : Int32) (0 : Int32) (y1 : Int32) = 1 then (
    LETV (y1 - vn : Int32) fun t3 =>
    LETV (y1 - 1 : Int32) fun t4 =>
    L_qm_undo_28_0 t3 vn 43 (t4 : Int32) mu
  ) else (
    (((-1) : Int32), mu)
  )
def L_qm_keep_92_1 (t4 : Int32) : Nat → (Int32) → (Nat → Nat → Int32) → Int32 × (Nat → Nat → Int32)
  | 0, v3_92, nu92_ => (0, nu92_)
  | n + 1, v3_92, nu92_ =>
    if v3_92 ≥ (40 : Int32) then (
      LETV (nu92_ 0 14 : Int32) fun y30 =>
      ((y30 : Int32), nu92_)
    ) else (
      LETV (t4 + 10 : Int32) fun t31 =>
      LETV (t31 + v3_92 : Int32) fun t32 =>
      LETV (nu92_ 10 v3_92.toNatClampNeg : Int32) fun y34 =>
      LETV (va_up nu92_ 15 (upd (nu92_ 15) t32.toNatClampNeg y34) : Nat → Nat → Int32) fun nu36 =>
      LETV ((v3_92 + 1) : Int32) fun w39 =>
      L_qm_keep_92_1 t4 n (w39 : Int32) nu36
    )
def L_qm_keep_62_0 (t4 : Int32) : Nat → (Int32) → (Nat → Nat → Int32) → Int32 × (Nat → Nat → Int32)
  | 0, v3_62, nu62_ => (0, nu62_)
  | n + 1, v3_62, nu62_ =>
    if v3_62 ≥ (7 : Int32) then (
      L_qm_keep_92_1 t4 43 (0 : Int32) nu62_
    ) else (
      LETV (t4 + 3 : Int32) fun t40 =>
      LETV (t40 + v3_62 : Int32) fun t41 =>
      LETV (nu62_ 8 v3_62.toNatClampNeg : Int32) fun y42 =>
      LETV (va_up nu62_ 15 (upd (nu62_ 15) t41.toNatClampNeg y42) : Nat → Nat → Int32) fun nu44 =>
      LETV ((v3_62 + 1) : Int32) fun w47 =>
      L_qm_keep_62_0 t4 n (w47 : Int32) nu44
    )
def F_qm_keep (mu : Nat → Nat → Int32) (vk : Int32) : Int32 × (Nat → Nat → Int32) :=
  if F_sm_in (vk : Int32) (0 : Int32) (2 : Int32) = 1 then (
    LETV (mu 0 8 : Int32) fun y2 =>
    if y2 = (0 : Int32) then (
      (((-4) : Int32), mu)
    ) else (
      LETV (64 * vk : Int32) fun t4 =>
      LETV (mu 0 14 : Int32) fun y5 =>
      LETV (va_up mu 15 (upd (mu 15) t4.toNatClampNeg y5) : Nat → Nat → Int32) fun nu7 =>
      LETV (t4 + 1 : Int32) fun t11 =>
      LETV (nu7 0 13 : Int32) fun y12 =>
      LETV (va_up nu7 15 (upd (nu7 15) t11.toNatClampNeg y12) : Nat → Nat → Int32) fun nu14 =>
      LETV (t4 + 2 : Int32) fun t19 =>
      LETV (nu14 0 15 : Int32) fun y20 =>
      LETV (va_up nu14 15 (upd (nu14 15) t19.toNatClampNeg y20) : Nat → Nat → Int32) fun nu22 =>
      L_qm_keep_62_0 t4 10 (0 : Int32) nu22
    )
  ) else (
    (((-1) : Int32), mu)
  )
def L_qm_on_99_1 (t2 : Int32) : Nat → (Int32) → (Nat → Nat → Int32) → Int32 × (Nat → Nat → Int32)
  | 0, v3_99, nu99_ => (0, nu99_)
  | n + 1, v3_99, nu99_ =>
    if v3_99 ≥ (40 : Int32) then (
      LETV (va_up nu99_ 0 (upd (nu99_ 0) 17 0) : Nat → Nat → Int32) fun nu33 =>
      LETV (nu33 0 14 : Int32) fun y36 =>
      ((y36 : Int32), nu33)
    ) else (
      LETV (t2 + 10 : Int32) fun t37 =>
      LETV (t37 + v3_99 : Int32) fun t38 =>
      LETV (nu99_ 15 t38.toNatClampNeg : Int32) fun y40 =>
      LETV (va_up nu99_ 10 (upd (nu99_ 10) v3_99.toNatClampNeg y40) : Nat → Nat → Int32) fun nu42 =>
      LETV ((v3_99 + 1) : Int32) fun w45 =>
      L_qm_on_99_1 t2 n (w45 : Int32) nu42
    )
def L_qm_on_69_0 (t2 : Int32) : Nat → (Int32) → (Nat → Nat → Int32) → Int32 × (Nat → Nat → Int32)
  | 0, v3_69, nu69_ => (0, nu69_)
  | n + 1, v3_69, nu69_ =>
    if v3_69 ≥ (7 : Int32) then (
      L_qm_on_99_1 t2 43 (0 : Int32) nu69_
    ) else (
      LETV (t2 + 3 : Int32) fun t46 =>
      LETV (t46 + v3_69 : Int32) fun t47 =>
      LETV (nu69_ 15 t47.toNatClampNeg : Int32) fun y49 =>
      LETV (va_up nu69_ 8 (upd (nu69_ 8) v3_69.toNatClampNeg y49) : Nat → Nat → Int32) fun nu50 =>
      LETV ((v3_69 + 1) : Int32) fun w53 =>
      L_qm_on_69_0 t2 n (w53 : Int32) nu50
    )
def F_qm_on (mu : Nat → Nat → Int32) (vk : Int32) : Int32 × (Nat → Nat → Int32) :=
  if F_sm_in (vk : Int32) (0 : Int32) (2 : Int32) = 1 then (
    LETV (64 * vk : Int32) fun t2 =>
    LETV (mu 15 t2.toNatClampNeg : Int32) fun y4 =>
    if y4 = ((-9) : Int32) then (
      LETP (F_sm_meet mu (1 : Int32)) fun r54 xi54 =>
      ((r54 : Int32), xi54)
    ) else (
      LETV (va_up mu 0 (upd (mu 0) 14 y4) : Nat → Nat → Int32) fun nu7 =>
      LETV (t2 + 1 : Int32) fun t11 =>
      LETV (nu7 15 t11.toNatClampNeg : Int32) fun y13 =>
      LETV (va_up nu7 0 (upd (nu7 0) 13 y13) : Nat → Nat → Int32) fun nu14 =>
      LETV (t2 + 2 : Int32) fun t20 =>
      LETV (nu14 15 t20.toNatClampNeg : Int32) fun y22 =>
      LETV (va_up nu14 0 (upd (nu14 0) 15 y22) : Nat → Nat → Int32) fun nu23 =>
      L_qm_on_69_0 t2 10 (0 : Int32) nu23
    )
  ) else (
    (((-1) : Int32), mu)
  )
