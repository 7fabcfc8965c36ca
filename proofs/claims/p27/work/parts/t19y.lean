def F_sm_setRoutes (mu : Nat → Nat → Int32) (vk : Int32) (vf : Int32) (vg : Int32) (vp : Int32) : Nat → Nat → Int32 :=
  LETV (mu 0 39 : Int32) fun y1 =>
  LETV (mu 0 33 : Int32) fun y2 =>
  LETV (mu 0 35 : Int32) fun y3 =>
  LETV (va_up mu 0 (upd (mu 0) 39 vk) : Nat → Nat → Int32) fun nu4 =>
  LETV (va_up nu4 0 (upd (nu4 0) 29 vg) : Nat → Nat → Int32) fun nu9 =>
  LETV (va_up nu9 0 (upd (nu9 0) 30 0) : Nat → Nat → Int32) fun nu15 =>
  LETV (va_up nu15 0 (upd (nu15 0) 31 1048576) : Nat → Nat → Int32) fun nu22 =>
  LETV (va_up nu22 0 (upd (nu22 0) 32 0) : Nat → Nat → Int32) fun nu30 =>
  LETV (va_up nu30 0 (upd (nu30 0) 33 0) : Nat → Nat → Int32) fun nu39 =>
  LETV (va_up nu39 0 (upd (nu39 0) 34 0) : Nat → Nat → Int32) fun nu48 =>
  LETV (va_up nu48 0 (upd (nu48 0) 35 1048576) : Nat → Nat → Int32) fun nu58 =>
  LETV (va_up nu58 0 (upd (nu58 0) 36 127) : Nat → Nat → Int32) fun nu68 =>
  LETV (va_up nu68 0 (upd (nu68 0) 37 1048576) : Nat → Nat → Int32) fun nu79 =>
  LETV (va_up nu79 16 (upd (nu79 16) (0 : Int32).toNatClampNeg vf) : Nat → Nat → Int32) fun nu91 =>
  LETV (1 <<< (vf &&& 31) : Int32) fun t103 =>
  LETV (F_sm_routeOn1 nu91 (t103 : Int32) (vp : Int32) : Nat → Nat → Int32) fun xi107 =>
  LETV (xi107 0 39 : Int32) fun y109 =>
  LETV (xi107 0 33 : Int32) fun y110 =>
  LETV (xi107 0 35 : Int32) fun y111 =>
  xi107
def F_sm_routesOf (mu : Nat → Nat → Int32) (vk : Int32) : Nat → Nat → Int32 :=
  LETV (mu 0 39 : Int32) fun y1 =>
  LETV (mu 0 33 : Int32) fun y2 =>
  LETV (mu 0 35 : Int32) fun y3 =>
  LETV (F_sm_letterOf5 mu (vk : Int32) : Int32) fun r4 =>
  LETV (F_sm_letterOf mu (vk : Int32) (1 : Int32) : Int32) fun r5 =>
  LETV (F_sm_letterOf mu (vk : Int32) (6 : Int32) : Int32) fun r6 =>
  LETV (F_sm_setRoutes mu (vk : Int32) (r4 : Int32) (r5 : Int32) (r6 : Int32) : Nat → Nat → Int32) fun xi7 =>
  LETV (xi7 0 39 : Int32) fun y9 =>
  LETV (xi7 0 33 : Int32) fun y10 =>
  LETV (xi7 0 35 : Int32) fun y11 =>
  xi7
def F_sm_askedRoutes (mu : Nat → Nat → Int32) (vk : Int32) : Int32 × (Nat → Nat → Int32) :=
  LETV (mu 0 39 : Int32) fun y1 =>
  LETV (mu 0 33 : Int32) fun y2 =>
  LETV (mu 0 35 : Int32) fun y3 =>
  LETP (F_sm_askedLetter mu (vk : Int32)) fun r4 xi4 =>
  if r4 = 0 then (
    LETV (F_sm_isRead mu (vk : Int32) : Int32) fun r6 =>
    if r6 = (0 : Int32) then (
      LETV (va_up mu 0 (upd (mu 0) 38 1) : Nat → Nat → Int32) fun nu8 =>
      LETV (F_sm_routesOf nu8 (vk : Int32) : Nat → Nat → Int32) fun xi14 =>
      LETV (xi14 0 39 : Int32) fun y16 =>
      LETV (xi14 0 33 : Int32) fun y17 =>
      LETV (xi14 0 35 : Int32) fun y18 =>
      ((0 : Int32), xi14)
    ) else (
      (((-4) : Int32), mu)
    )
  ) else (
    ((r4 : Int32), xi4)
  )
def L_sm_layRoute17_10_0 (vn : Int32) (vr : Int32) : Nat → (Int32) → (Nat → Nat → Int32) → Nat → Nat → Int32
  | 0, v4_10, nu10_ => nu10_
  | n + 1, v4_10, nu10_ =>
    if v4_10 ≥ vn then (
      nu10_
    ) else (
      LETV (nu10_ 17 v4_10.toNatClampNeg : Int32) fun y4 =>
      LETV (F_sm_setRow nu10_ (vr : Int32) (v4_10 : Int32) (y4 : Int32) : Nat → Nat → Int32) fun xi5 =>
      LETV ((v4_10 + 1) : Int32) fun w7 =>
      L_sm_layRoute17_10_0 vn vr n (w7 : Int32) xi5
    )
def F_sm_layRoute17 (mu : Nat → Nat → Int32) (vr : Int32) (vn : Int32) : Nat → Nat → Int32 :=
  LETP (F_qm_row mu (vr : Int32) (vn : Int32)) fun r1 xi1 =>
  L_sm_layRoute17_10_0 vn vr 10 (0 : Int32) xi1
def L_sm_layRoute18_10_0 (vn : Int32) (vr : Int32) : Nat → (Int32) → (Nat → Nat → Int32) → Nat → Nat → Int32
  | 0, v4_10, nu10_ => nu10_
  | n + 1, v4_10, nu10_ =>
    if v4_10 ≥ vn then (
      nu10_
    ) else (
      LETV (nu10_ 18 v4_10.toNatClampNeg : Int32) fun y4 =>
      LETV (F_sm_setRow nu10_ (vr : Int32) (v4_10 : Int32) (y4 : Int32) : Nat → Nat → Int32) fun xi5 =>
      LETV ((v4_10 + 1) : Int32) fun w7 =>
      L_sm_layRoute18_10_0 vn vr n (w7 : Int32) xi5
    )
def F_sm_layRoute18 (mu : Nat → Nat → Int32) (vr : Int32) (vn : Int32) : Nat → Nat → Int32 :=
  LETP (F_qm_row mu (vr : Int32) (vn : Int32)) fun r1 xi1 =>
  L_sm_layRoute18_10_0 vn vr 10 (0 : Int32) xi1
