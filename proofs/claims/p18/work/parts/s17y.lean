def F_sx_build (mu : Nat → Nat → Int32) : Nat → Nat → Int32 :=
  LETV (mu 31 4 : Int32) fun y1 =>
  LETV (va_up mu 34 (va_cpy (mu 48) (mu 34) (0 : Int32).toNatClampNeg (0 : Int32).toNatClampNeg (y1 : Int32).toNatClampNeg) : Nat → Nat → Int32) fun nu2 =>
  LETV (nu2 31 5 : Int32) fun y5 =>
  LETV (va_up nu2 35 (va_cpy (nu2 50) (nu2 35) (0 : Int32).toNatClampNeg (0 : Int32).toNatClampNeg (y5 : Int32).toNatClampNeg) : Nat → Nat → Int32) fun nu6 =>
  LETV (va_up nu6 36 (va_cpy (nu6 51) (nu6 36) (0 : Int32).toNatClampNeg (0 : Int32).toNatClampNeg (y5 : Int32).toNatClampNeg) : Nat → Nat → Int32) fun nu10 =>
  LETV (va_up nu10 46 (va_cpy (nu10 49) (nu10 46) (0 : Int32).toNatClampNeg (0 : Int32).toNatClampNeg (y1 : Int32).toNatClampNeg) : Nat → Nat → Int32) fun nu14 =>
  LETV (va_up nu14 4 (upd (nu14 4) 6 y1) : Nat → Nat → Int32) fun nu18 =>
  LETV (va_up nu18 4 (upd (nu18 4) 7 y5) : Nat → Nat → Int32) fun nu23 =>
  LETV (va_up nu23 5 (upd (nu23 5) 2 0) : Nat → Nat → Int32) fun nu29 =>
  LETV (va_up nu29 5 (upd (nu29 5) 3 0) : Nat → Nat → Int32) fun nu36 =>
  LETV (va_up nu36 5 (upd (nu36 5) 4 0) : Nat → Nat → Int32) fun nu44 =>
  nu44
