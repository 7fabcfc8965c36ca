def F_sx_undoLast (mu : Nat → Nat → Int32) : Nat → Nat → Int32 :=
  LETV (mu 6 1 : Int32) fun y1 =>
  if y1 > (0 : Int32) then (
    LETV (y1 - 1 : Int32) fun t3 =>
    LETV (va_up mu 6 (upd (mu 6) 1 t3) : Nat → Nat → Int32) fun nu4 =>
    LETV (nu4 (77 + t3.toNatClampNeg) 1 : Int32) fun y8 =>
    LETV (nu4 (77 + t3.toNatClampNeg) 2 : Int32) fun y10 =>
    LETV (va_up nu4 (61 + y8.toNatClampNeg) (upd (nu4 (61 + y8.toNatClampNeg)) 5 y10) : Nat → Nat → Int32) fun nu11 =>
    LETV (nu11 (77 + t3.toNatClampNeg) 5 : Int32) fun y17 =>
    LETV (va_up nu11 (61 + y8.toNatClampNeg) (upd (nu11 (61 + y8.toNatClampNeg)) 6 y17) : Nat → Nat → Int32) fun nu18 =>
    LETV (nu18 (77 + t3.toNatClampNeg) 6 : Int32) fun y26 =>
    LETV (va_up nu18 (61 + y8.toNatClampNeg) (upd (nu18 (61 + y8.toNatClampNeg)) 7 y26) : Nat → Nat → Int32) fun nu27 =>
    LETV (nu27 (61 + y8.toNatClampNeg) 8 : Int32) fun y37 =>
    LETV (y37 - 1 : Int32) fun t38 =>
    LETV (va_up nu27 (61 + y8.toNatClampNeg) (upd (nu27 (61 + y8.toNatClampNeg)) 8 t38) : Nat → Nat → Int32) fun nu39 =>
    LETV (va_up nu39 (61 + y8.toNatClampNeg) (upd (nu39 (61 + y8.toNatClampNeg)) 9 0) : Nat → Nat → Int32) fun nu50 =>
    LETV (va_up nu50 46 (va_cpy (nu50 ((77 + t3.toNatClampNeg) + 40)) (nu50 46) (0 : Int32).toNatClampNeg (0 : Int32).toNatClampNeg (7 : Int32).toNatClampNeg) : Nat → Nat → Int32) fun nu63 =>
    nu63
  ) else (
    mu
  )
