def F_sx_enterSale (mu : Nat → Nat → Int32) (vk : Int32) (vx : Int32) : Int32 × (Nat → Nat → Int32) :=
  LETV (F_sx_priceOf mu (61 + vk.toNatClampNeg) : Int32) fun r2 =>
  LETV (mu 6 1 : Int32) fun y3 =>
  LETV (va_up mu ((77 + y3.toNatClampNeg) + 40) (va_cpy (mu 46) (mu ((77 + y3.toNatClampNeg) + 40)) (0 : Int32).toNatClampNeg (0 : Int32).toNatClampNeg (7 : Int32).toNatClampNeg) : Nat → Nat → Int32) fun nu6 =>
  LETV (va_up nu6 (77 + y3.toNatClampNeg) (upd (nu6 (77 + y3.toNatClampNeg)) 1 vk) : Nat → Nat → Int32) fun nu9 =>
  LETV (nu9 (61 + vk.toNatClampNeg) 5 : Int32) fun y13 =>
  LETV (va_up nu9 (77 + y3.toNatClampNeg) (upd (nu9 (77 + y3.toNatClampNeg)) 2 y13) : Nat → Nat → Int32) fun nu14 =>
  LETV (va_up nu14 (77 + y3.toNatClampNeg) (upd (nu14 (77 + y3.toNatClampNeg)) 3 vx) : Nat → Nat → Int32) fun nu20 =>
  LETV (va_up nu20 (77 + y3.toNatClampNeg) (upd (nu20 (77 + y3.toNatClampNeg)) 4 r2) : Nat → Nat → Int32) fun nu27 =>
  LETV (nu27 (61 + vk.toNatClampNeg) 6 : Int32) fun y35 =>
  LETV (va_up nu27 (77 + y3.toNatClampNeg) (upd (nu27 (77 + y3.toNatClampNeg)) 5 y35) : Nat → Nat → Int32) fun nu36 =>
  LETV (nu36 (61 + vk.toNatClampNeg) 7 : Int32) fun y46 =>
  LETV (va_up nu36 (77 + y3.toNatClampNeg) (upd (nu36 (77 + y3.toNatClampNeg)) 6 y46) : Nat → Nat → Int32) fun nu47 =>
  LETV (y3 + 1 : Int32) fun t59 =>
  LETV (va_up nu47 6 (upd (nu47 6) 1 t59) : Nat → Nat → Int32) fun nu60 =>
  LETV (nu60 46 vx.toNatClampNeg : Int32) fun y72 =>
  LETV (y72 - r2 : Int32) fun t73 =>
  LETV (va_up nu60 46 (upd (nu60 46) vx.toNatClampNeg t73) : Nat → Nat → Int32) fun nu74 =>
  LETV (nu74 46 y13.toNatClampNeg : Int32) fun y86 =>
  LETV (y86 + r2 : Int32) fun t87 =>
  LETV (va_up nu74 46 (upd (nu74 46) y13.toNatClampNeg t87) : Nat → Nat → Int32) fun nu88 =>
  LETV (va_up nu88 (61 + vk.toNatClampNeg) (upd (nu88 (61 + vk.toNatClampNeg)) 5 vx) : Nat → Nat → Int32) fun nu100 =>
  LETV (va_up nu100 (61 + vk.toNatClampNeg) (upd (nu100 (61 + vk.toNatClampNeg)) 6 r2) : Nat → Nat → Int32) fun nu112 =>
  LETV (nu112 5 3 : Int32) fun y124 =>
  LETV (va_up nu112 (61 + vk.toNatClampNeg) (upd (nu112 (61 + vk.toNatClampNeg)) 7 y124) : Nat → Nat → Int32) fun nu125 =>
  LETV (nu125 (61 + vk.toNatClampNeg) 8 : Int32) fun y138 =>
  LETV (y138 + 1 : Int32) fun t139 =>
  LETV (va_up nu125 (61 + vk.toNatClampNeg) (upd (nu125 (61 + vk.toNatClampNeg)) 8 t139) : Nat → Nat → Int32) fun nu140 =>
  LETV (nu140 (61 + vk.toNatClampNeg) 1 : Int32) fun y154 =>
  if vx = y154 then (
    LETV (va_up nu140 (61 + vk.toNatClampNeg) (upd (nu140 (61 + vk.toNatClampNeg)) 9 1) : Nat → Nat → Int32) fun nu172 =>
    ((r2 : Int32), nu172)
  ) else (
    LETV (va_up nu140 (61 + vk.toNatClampNeg) (upd (nu140 (61 + vk.toNatClampNeg)) 9 0) : Nat → Nat → Int32) fun nu156 =>
    ((r2 : Int32), nu156)
  )
