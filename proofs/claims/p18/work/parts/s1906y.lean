def L_sx_Standing_beLike_5_18_17_0 : Nat → (Int32) → (Nat → Nat → Int32) → Nat → Nat → Int32
  | 0, v2_17, nu17_ => nu17_
  | n + 1, v2_17, nu17_ =>
    if v2_17 ≥ (4 : Int32) then (
      LETV (nu17_ 18 2 : Int32) fun y4 =>
      LETV (va_up nu17_ 5 (upd (nu17_ 5) 2 y4) : Nat → Nat → Int32) fun nu5 =>
      LETV (nu5 18 3 : Int32) fun y9 =>
      LETV (va_up nu5 5 (upd (nu5 5) 3 y9) : Nat → Nat → Int32) fun nu10 =>
      LETV (nu10 18 4 : Int32) fun y16 =>
      LETV (va_up nu10 5 (upd (nu10 5) 4 y16) : Nat → Nat → Int32) fun nu17 =>
      nu17
    ) else (
      LETV (F_sx_Letter_beLike nu17_ (61 + v2_17.toNatClampNeg) (65 + v2_17.toNatClampNeg) : Nat → Nat → Int32) fun xi27 =>
      LETV ((v2_17 + 1) : Int32) fun w29 =>
      L_sx_Standing_beLike_5_18_17_0 n (w29 : Int32) xi27
    )
def F_sx_Standing_beLike_5_18 (mu : Nat → Nat → Int32) : Nat → Nat → Int32 :=
  LETV (va_up mu 46 (va_cpy (mu 40) (mu 46) (0 : Int32).toNatClampNeg (0 : Int32).toNatClampNeg (7 : Int32).toNatClampNeg) : Nat → Nat → Int32) fun nu1 =>
  L_sx_Standing_beLike_5_18_17_0 7 (0 : Int32) nu1
def L_sx_Standing_beLike_5_19_17_0 : Nat → (Int32) → (Nat → Nat → Int32) → Nat → Nat → Int32
  | 0, v2_17, nu17_ => nu17_
  | n + 1, v2_17, nu17_ =>
    if v2_17 ≥ (4 : Int32) then (
      LETV (nu17_ 19 2 : Int32) fun y4 =>
      LETV (va_up nu17_ 5 (upd (nu17_ 5) 2 y4) : Nat → Nat → Int32) fun nu5 =>
      LETV (nu5 19 3 : Int32) fun y9 =>
      LETV (va_up nu5 5 (upd (nu5 5) 3 y9) : Nat → Nat → Int32) fun nu10 =>
      LETV (nu10 19 4 : Int32) fun y16 =>
      LETV (va_up nu10 5 (upd (nu10 5) 4 y16) : Nat → Nat → Int32) fun nu17 =>
      nu17
    ) else (
      LETV (F_sx_Letter_beLike nu17_ (61 + v2_17.toNatClampNeg) (69 + v2_17.toNatClampNeg) : Nat → Nat → Int32) fun xi27 =>
      LETV ((v2_17 + 1) : Int32) fun w29 =>
      L_sx_Standing_beLike_5_19_17_0 n (w29 : Int32) xi27
    )
def F_sx_Standing_beLike_5_19 (mu : Nat → Nat → Int32) : Nat → Nat → Int32 :=
  LETV (va_up mu 46 (va_cpy (mu 41) (mu 46) (0 : Int32).toNatClampNeg (0 : Int32).toNatClampNeg (7 : Int32).toNatClampNeg) : Nat → Nat → Int32) fun nu1 =>
  L_sx_Standing_beLike_5_19_17_0 7 (0 : Int32) nu1
def L_sx_Standing_beLike_5_20_17_0 : Nat → (Int32) → (Nat → Nat → Int32) → Nat → Nat → Int32
  | 0, v2_17, nu17_ => nu17_
  | n + 1, v2_17, nu17_ =>
    if v2_17 ≥ (4 : Int32) then (
      LETV (nu17_ 20 2 : Int32) fun y4 =>
      LETV (va_up nu17_ 5 (upd (nu17_ 5) 2 y4) : Nat → Nat → Int32) fun nu5 =>
      LETV (nu5 20 3 : Int32) fun y9 =>
      LETV (va_up nu5 5 (upd (nu5 5) 3 y9) : Nat → Nat → Int32) fun nu10 =>
      LETV (nu10 20 4 : Int32) fun y16 =>
      LETV (va_up nu10 5 (upd (nu10 5) 4 y16) : Nat → Nat → Int32) fun nu17 =>
      nu17
    ) else (
      LETV (F_sx_Letter_beLike nu17_ (61 + v2_17.toNatClampNeg) (73 + v2_17.toNatClampNeg) : Nat → Nat → Int32) fun xi27 =>
      LETV ((v2_17 + 1) : Int32) fun w29 =>
      L_sx_Standing_beLike_5_20_17_0 n (w29 : Int32) xi27
    )
def F_sx_Standing_beLike_5_20 (mu : Nat → Nat → Int32) : Nat → Nat → Int32 :=
  LETV (va_up mu 46 (va_cpy (mu 42) (mu 46) (0 : Int32).toNatClampNeg (0 : Int32).toNatClampNeg (7 : Int32).toNatClampNeg) : Nat → Nat → Int32) fun nu1 =>
  L_sx_Standing_beLike_5_20_17_0 7 (0 : Int32) nu1
def L_sx_Standing_beLike_18_5_17_0 : Nat → (Int32) → (Nat → Nat → Int32) → Nat → Nat → Int32
  | 0, v2_17, nu17_ => nu17_
  | n + 1, v2_17, nu17_ =>
    if v2_17 ≥ (4 : Int32) then (
      LETV (nu17_ 5 2 : Int32) fun y4 =>
      LETV (va_up nu17_ 18 (upd (nu17_ 18) 2 y4) : Nat → Nat → Int32) fun nu5 =>
      LETV (nu5 5 3 : Int32) fun y9 =>
      LETV (va_up nu5 18 (upd (nu5 18) 3 y9) : Nat → Nat → Int32) fun nu10 =>
      LETV (nu10 5 4 : Int32) fun y16 =>
      LETV (va_up nu10 18 (upd (nu10 18) 4 y16) : Nat → Nat → Int32) fun nu17 =>
      nu17
    ) else (
      LETV (F_sx_Letter_beLike nu17_ (65 + v2_17.toNatClampNeg) (61 + v2_17.toNatClampNeg) : Nat → Nat → Int32) fun xi27 =>
      LETV ((v2_17 + 1) : Int32) fun w29 =>
      L_sx_Standing_beLike_18_5_17_0 n (w29 : Int32) xi27
    )
def F_sx_Standing_beLike_18_5 (mu : Nat → Nat → Int32) : Nat → Nat → Int32 :=
  LETV (va_up mu 40 (va_cpy (mu 46) (mu 40) (0 : Int32).toNatClampNeg (0 : Int32).toNatClampNeg (7 : Int32).toNatClampNeg) : Nat → Nat → Int32) fun nu1 =>
  L_sx_Standing_beLike_18_5_17_0 7 (0 : Int32) nu1
def L_sx_Standing_beLike_19_5_17_0 : Nat → (Int32) → (Nat → Nat → Int32) → Nat → Nat → Int32
  | 0, v2_17, nu17_ => nu17_
  | n + 1, v2_17, nu17_ =>
    if v2_17 ≥ (4 : Int32) then (
      LETV (nu17_ 5 2 : Int32) fun y4 =>
      LETV (va_up nu17_ 19 (upd (nu17_ 19) 2 y4) : Nat → Nat → Int32) fun nu5 =>
      LETV (nu5 5 3 : Int32) fun y9 =>
      LETV (va_up nu5 19 (upd (nu5 19) 3 y9) : Nat → Nat → Int32) fun nu10 =>
      LETV (nu10 5 4 : Int32) fun y16 =>
      LETV (va_up nu10 19 (upd (nu10 19) 4 y16) : Nat → Nat → Int32) fun nu17 =>
      nu17
    ) else (
      LETV (F_sx_Letter_beLike nu17_ (69 + v2_17.toNatClampNeg) (61 + v2_17.toNatClampNeg) : Nat → Nat → Int32) fun xi27 =>
      LETV ((v2_17 + 1) : Int32) fun w29 =>
      L_sx_Standing_beLike_19_5_17_0 n (w29 : Int32) xi27
    )
def F_sx_Standing_beLike_19_5 (mu : Nat → Nat → Int32) : Nat → Nat → Int32 :=
  LETV (va_up mu 41 (va_cpy (mu 46) (mu 41) (0 : Int32).toNatClampNeg (0 : Int32).toNatClampNeg (7 : Int32).toNatClampNeg) : Nat → Nat → Int32) fun nu1 =>
  L_sx_Standing_beLike_19_5_17_0 7 (0 : Int32) nu1
def L_sx_Standing_beLike_20_5_17_0 : Nat → (Int32) → (Nat → Nat → Int32) → Nat → Nat → Int32
  | 0, v2_17, nu17_ => nu17_
  | n + 1, v2_17, nu17_ =>
    if v2_17 ≥ (4 : Int32) then (
      LETV (nu17_ 5 2 : Int32) fun y4 =>
      LETV (va_up nu17_ 20 (upd (nu17_ 20) 2 y4) : Nat → Nat → Int32) fun nu5 =>
      LETV (nu5 5 3 : Int32) fun y9 =>
      LETV (va_up nu5 20 (upd (nu5 20) 3 y9) : Nat → Nat → Int32) fun nu10 =>
      LETV (nu10 5 4 : Int32) fun y16 =>
      LETV (va_up nu10 20 (upd (nu10 20) 4 y16) : Nat → Nat → Int32) fun nu17 =>
      nu17
    ) else (
      LETV (F_sx_Letter_beLike nu17_ (73 + v2_17.toNatClampNeg) (61 + v2_17.toNatClampNeg) : Nat → Nat → Int32) fun xi27 =>
      LETV ((v2_17 + 1) : Int32) fun w29 =>
      L_sx_Standing_beLike_20_5_17_0 n (w29 : Int32) xi27
    )
def F_sx_Standing_beLike_20_5 (mu : Nat → Nat → Int32) : Nat → Nat → Int32 :=
  LETV (va_up mu 42 (va_cpy (mu 46) (mu 42) (0 : Int32).toNatClampNeg (0 : Int32).toNatClampNeg (7 : Int32).toNatClampNeg) : Nat → Nat → Int32) fun nu1 =>
  L_sx_Standing_beLike_20_5_17_0 7 (0 : Int32) nu1
